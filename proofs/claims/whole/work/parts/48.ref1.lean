/-! THE REFERENCE: words turned, padded, more -/
def qTW (x : Int64) (n : Nat) : Int64 := lu x (nI n) ||| ll x (nI (64 - n))
def qTN (x : Int64) (n : Nat) : Int64 := (lu x (nI n) ||| ll x (nI (32 - n))) &&& 4294967295
def qFW (x : Int64) : Int64 := x
def qFN (x : Int64) : Int64 := x &&& 4294967295
def qMW (x : Int64) (a b c : Nat) : Int64 := (qTW x a ^^^ qTW x b) ^^^ qTW x c
def qMN (x : Int64) (a b c : Nat) : Int64 := (qTN x a ^^^ qTN x b) ^^^ qTN x c
def qSW (x : Int64) (a b c : Nat) : Int64 := (qTW x a ^^^ qTW x b) ^^^ lu x (nI c)
def qSN (x : Int64) (a b c : Nat) : Int64 := (qTN x a ^^^ qTN x b) ^^^ lu x (nI c)
def qPd (f : Nat → Int8) (fo n i al : Nat) : Int32 := if i < n then (f (fo + i)).toInt32 &&& 255 else if i = n then nI 128 else if i < al - 8 then nI 0 else (lu (8 * (nI n).toInt64) (nI (8 * (al - 1 - i)))).toInt32 &&& 255
set_option maxHeartbeats 600000 in
set_option maxRecDepth 100000 in
theorem c_r_fitW (l : Launch) (D : va_G) (k : Nat → ClassId) (tb : Nat → Nat) (sz : Nat) (mo xt xk xr nt nk nr xu xv xb xw xo xl xp yr ys yw yt yl yc : Nat) (th : Int32) (x : Int64) : Met l yMd_fit wMd_fit ({ frames := 0, cells := 0, slots := 0, locals := 0 }) (cP D k tb [(mo, .inr (5, [.int th, .ref xt, .ref xk, .ref xr, .int (nI nt), .int (nI nk), .int (nI nr), .ref xu, .ref xv, .ref xb, .ref xw, .ref xo, .ref xl, .ref xp, .ref yr, .ref ys, .ref yw, .ref yt, .ref yl, .ref yc, .int (nI 1)]))] sz [.ref mo, .long x]) (va_Ql (fun (r : Int64) (u : Unit) => r = qFW x) (fun (u : Unit) (t : State) => va_P D vwCl [(mo, .inr (5, [.int th, .ref xt, .ref xk, .ref xr, .int (nI nt), .int (nI nk), .int (nI nr), .ref xu, .ref xv, .ref xb, .ref xw, .ref xo, .ref xl, .ref xp, .ref yr, .ref ys, .ref yw, .ref yt, .ref yl, .ref yc, .int (nI 1)]))] t.heap ∧ va_D (va_A [(mo, .inr (5, [.int th, .ref xt, .ref xk, .ref xr, .int (nI nt), .int (nI nk), .int (nI nr), .ref xu, .ref xv, .ref xb, .ref xw, .ref xo, .ref xl, .ref xp, .ref yr, .ref ys, .ref yw, .ref yt, .ref yl, .ref yc, .int (nI 1)]))] sz) [(mo, .inr (5, [.int th, .ref xt, .ref xk, .ref xr, .int (nI nt), .int (nI nk), .int (nI nr), .ref xu, .ref xv, .ref xb, .ref xw, .ref xo, .ref xl, .ref xp, .ref yr, .ref ys, .ref yw, .ref yt, .ref yl, .ref yc, .int (nI 1)]))]) (va_A [(mo, .inr (5, [.int th, .ref xt, .ref xk, .ref xr, .int (nI nt), .int (nI nk), .int (nI nr), .ref xu, .ref xv, .ref xb, .ref xw, .ref xo, .ref xl, .ref xp, .ref yr, .ref ys, .ref yw, .ref yt, .ref yl, .ref yc, .int (nI 1)]))] sz)) (0) (0) (va_A [(mo, .inr (5, [.int th, .ref xt, .ref xk, .ref xr, .int (nI nt), .int (nI nk), .int (nI nr), .ref xu, .ref xv, .ref xb, .ref xw, .ref xo, .ref xl, .ref xp, .ref yr, .ref ys, .ref yw, .ref yt, .ref yl, .ref yc, .int (nI 1)]))] sz) := by
  refine Met.ofW (cc := cMd_fit) (maxL := 3) (ret := (some .long)) (by decide) rfl ?_
  intro p e s m args below meth c s₁ B hml hv
  obtain ⟨rfl, hsz, hP, hK, hD0, hG⟩ := hv
  have hx := B.exec
  have hb := B.bytes
  have hr := B.returns
  have hts : ∀ w ∈ GT, w.before _ s = true := fun w h => atoms_spec (ws := wMd_fit) B.pre w (List.mem_cons_of_mem _ h)
  have hown : s.vm.findClass R_Md = some m.cls := findClass_of_methodNamed B.named
  have hlocks := B.notSynchronized
  subst hsz
  have hD := hD0.self (sz := s.heap.size)
  generalize hAe : va_A [(mo, .inr (5, [.int th, .ref xt, .ref xk, .ref xr, .int (nI nt), .int (nI nk), .int (nI nr), .ref xu, .ref xv, .ref xb, .ref xw, .ref xo, .ref xl, .ref xp, .ref yr, .ref ys, .ref yw, .ref yt, .ref yl, .ref yc, .int (nI 1)]))] s.heap.size = A at hD hG ⊢
  have hA : ∀ q : Nat, s.heap.size ≤ q → A q := fun q h => by rw [← hAe]; exact Or.inr h
  have hl := lv_entry ([.ref mo, .long x]) (n := 3) (Nat.le_of_ble_eq_true rfl)
  rw [lg_entry_eq]
  generalize (lg_sl ([.ref mo, .long x]) ++ List.replicate (3 - (lg_sl ([.ref mo, .long x])).length) Slot.unset).toArray = ls at hl ⊢
  have hl : lv_has ls 3 [(0, .ref mo), (1, .long x)] := hl
  refine cw_start (A := A) hP (fun H locs hP hS => ?_)
  refine lv_aload_n hx hb dMd_fit_0 rfl (lv_at hl 0 rfl) ?_
  refine va_get (D := D) (ci := 5) (v := .int (nI 1)) (C := R_Md) (T := T_Md) (N := 21) hx hb hts in_Md hown hK hP 0 rfl rfl 20 (by decide) (hts _ gm_545) (fun _ h9 => h9) rfl dMd_fit_1 ?_
  refine rz_eq (tgt := 11) hx hb dMd_fit_4 (by decide) (by omega) (fun c_4 => absurd c_4 (by omega)) (fun c_4 => ?_)
  refine lv_lload_n hx hb dMd_fit_7 rfl (lv_at hl 1 rfl) ?_
  refine lv_goto (tgt := 16) hx hb dMd_fit_8 (by decide) ?_
  refine W.widen (k := 0) (n := 0) (Nat.le_refl _) (Nat.le_refl _) ?_
  exact W.lret (v := x) hx hb hr (fun t ht hW => ⟨⟨x, (), rfl, rfl, by rw [ht]; exact hP, hD⟩, hS.F ht⟩) hS.2.2 dMd_fit_16
set_option maxHeartbeats 600000 in
set_option maxRecDepth 100000 in
theorem c_r_turnedW (l : Launch) (D : va_G) (k : Nat → ClassId) (tb : Nat → Nat) (sz : Nat) (mo xt xk xr nt nk nr xu xv xb xw xo xl xp yr ys yw yt yl yc : Nat) (th : Int32) (x : Int64) (n : Nat) (hn : n ≤ 64) : Met l yMd_turned wMd_turned ({ frames := 0, cells := 0, slots := 0, locals := 0 }) (cP D k tb [(mo, .inr (5, [.int th, .ref xt, .ref xk, .ref xr, .int (nI nt), .int (nI nk), .int (nI nr), .ref xu, .ref xv, .ref xb, .ref xw, .ref xo, .ref xl, .ref xp, .ref yr, .ref ys, .ref yw, .ref yt, .ref yl, .ref yc, .int (nI 1)]))] sz [.ref mo, .long x, .int (nI n)]) (va_Ql (fun (r : Int64) (u : Unit) => r = qTW x n) (fun (u : Unit) (t : State) => va_P D vwCl [(mo, .inr (5, [.int th, .ref xt, .ref xk, .ref xr, .int (nI nt), .int (nI nk), .int (nI nr), .ref xu, .ref xv, .ref xb, .ref xw, .ref xo, .ref xl, .ref xp, .ref yr, .ref ys, .ref yw, .ref yt, .ref yl, .ref yc, .int (nI 1)]))] t.heap ∧ va_D (va_A [(mo, .inr (5, [.int th, .ref xt, .ref xk, .ref xr, .int (nI nt), .int (nI nk), .int (nI nr), .ref xu, .ref xv, .ref xb, .ref xw, .ref xo, .ref xl, .ref xp, .ref yr, .ref ys, .ref yw, .ref yt, .ref yl, .ref yc, .int (nI 1)]))] sz) [(mo, .inr (5, [.int th, .ref xt, .ref xk, .ref xr, .int (nI nt), .int (nI nk), .int (nI nr), .ref xu, .ref xv, .ref xb, .ref xw, .ref xo, .ref xl, .ref xp, .ref yr, .ref ys, .ref yw, .ref yt, .ref yl, .ref yc, .int (nI 1)]))]) (va_A [(mo, .inr (5, [.int th, .ref xt, .ref xk, .ref xr, .int (nI nt), .int (nI nk), .int (nI nr), .ref xu, .ref xv, .ref xb, .ref xw, .ref xo, .ref xl, .ref xp, .ref yr, .ref ys, .ref yw, .ref yt, .ref yl, .ref yc, .int (nI 1)]))] sz)) (0) (0) (va_A [(mo, .inr (5, [.int th, .ref xt, .ref xk, .ref xr, .int (nI nt), .int (nI nk), .int (nI nr), .ref xu, .ref xv, .ref xb, .ref xw, .ref xo, .ref xl, .ref xp, .ref yr, .ref ys, .ref yw, .ref yt, .ref yl, .ref yc, .int (nI 1)]))] sz) := by
  refine Met.ofW (cc := cMd_turned) (maxL := 4) (ret := (some .long)) (by decide) rfl ?_
  intro p e s m args below meth c s₁ B hml hv
  obtain ⟨rfl, hsz, hP, hK, hD0, hG⟩ := hv
  have hx := B.exec
  have hb := B.bytes
  have hr := B.returns
  have hts : ∀ w ∈ GT, w.before _ s = true := fun w h => atoms_spec (ws := wMd_turned) B.pre w (List.mem_cons_of_mem _ h)
  have hown : s.vm.findClass R_Md = some m.cls := findClass_of_methodNamed B.named
  have hlocks := B.notSynchronized
  subst hsz
  have hD := hD0.self (sz := s.heap.size)
  generalize hAe : va_A [(mo, .inr (5, [.int th, .ref xt, .ref xk, .ref xr, .int (nI nt), .int (nI nk), .int (nI nr), .ref xu, .ref xv, .ref xb, .ref xw, .ref xo, .ref xl, .ref xp, .ref yr, .ref ys, .ref yw, .ref yt, .ref yl, .ref yc, .int (nI 1)]))] s.heap.size = A at hD hG ⊢
  have hA : ∀ q : Nat, s.heap.size ≤ q → A q := fun q h => by rw [← hAe]; exact Or.inr h
  have hl := lv_entry ([.ref mo, .long x, .int (nI n)]) (n := 4) (Nat.le_of_ble_eq_true rfl)
  rw [lg_entry_eq]
  generalize (lg_sl ([.ref mo, .long x, .int (nI n)]) ++ List.replicate (4 - (lg_sl ([.ref mo, .long x, .int (nI n)])).length) Slot.unset).toArray = ls at hl ⊢
  have hl : lv_has ls 4 [(0, .ref mo), (1, .long x), (3, .int (nI n))] := hl
  refine cw_start (A := A) hP (fun H locs hP hS => ?_)
  refine lv_aload_n hx hb dMd_turned_0 rfl (lv_at hl 0 rfl) ?_
  refine va_get (D := D) (ci := 5) (v := .int (nI 1)) (C := R_Md) (T := T_Md) (N := 21) hx hb hts in_Md hown hK hP 0 rfl rfl 20 (by decide) (hts _ gm_545) (fun _ h9 => h9) rfl dMd_turned_1 ?_
  refine rz_eq (tgt := 20) hx hb dMd_turned_4 (by decide) (by omega) (fun c_4 => absurd c_4 (by omega)) (fun c_4 => ?_)
  refine lv_lload_n hx hb dMd_turned_7 rfl (lv_at hl 1 rfl) ?_
  refine lv_iload_n hx hb dMd_turned_8 rfl (lv_at hl 2 rfl) ?_
  refine lv_lushr (v := lu x (nI n)) hx hb dMd_turned_9 rfl ?_
  refine lv_lload_n hx hb dMd_turned_10 rfl (lv_at hl 1 rfl) ?_
  refine lv_bipush (v := nI 64) hx hb dMd_turned_11 (by decide) ?_
  refine lv_iload_n hx hb dMd_turned_13 rfl (lv_at hl 2 rfl) ?_
  refine ri_sub hx hb (by omega) dMd_turned_14 ?_
  refine lv_lshl (v := ll x (nI (64 - n))) hx hb dMd_turned_15 rfl ?_
  refine lv_lor hx hb dMd_turned_16 ?_
  refine lv_goto (tgt := 34) hx hb dMd_turned_17 (by decide) ?_
  refine W.widen (k := 0) (n := 0) (Nat.le_refl _) (Nat.le_refl _) ?_
  exact W.lret (v := (lu x (nI n)) ||| (ll x (nI (64 - n)))) hx hb hr (fun t ht hW => ⟨⟨(lu x (nI n)) ||| (ll x (nI (64 - n))), (), rfl, rfl, by rw [ht]; exact hP, hD⟩, hS.F ht⟩) hS.2.2 dMd_turned_34
set_option maxHeartbeats 600000 in
set_option maxRecDepth 100000 in
theorem c_r_mixedW (l : Launch) (D : va_G) (k : Nat → ClassId) (tb : Nat → Nat) (sz : Nat) (mo xt xk xr nt nk nr xu xv xb xw xo xl xp yr ys yw yt yl yc : Nat) (th : Int32) (x : Int64) (na nb nc : Nat) (hna : na ≤ 64) (hnb : nb ≤ 64) (hnc : nc ≤ 64) : Met l yMd_mixed wMd_mixed ({ frames := 1, cells := 0, slots := 0, locals := 23 }) (cP D k tb [(mo, .inr (5, [.int th, .ref xt, .ref xk, .ref xr, .int (nI nt), .int (nI nk), .int (nI nr), .ref xu, .ref xv, .ref xb, .ref xw, .ref xo, .ref xl, .ref xp, .ref yr, .ref ys, .ref yw, .ref yt, .ref yl, .ref yc, .int (nI 1)]))] sz [.ref mo, .long x, .int (nI na), .int (nI nb), .int (nI nc)]) (va_Ql (fun (r : Int64) (u : Unit) => r = qMW x na nb nc) (fun (u : Unit) (t : State) => va_P D vwCl [(mo, .inr (5, [.int th, .ref xt, .ref xk, .ref xr, .int (nI nt), .int (nI nk), .int (nI nr), .ref xu, .ref xv, .ref xb, .ref xw, .ref xo, .ref xl, .ref xp, .ref yr, .ref ys, .ref yw, .ref yt, .ref yl, .ref yc, .int (nI 1)]))] t.heap ∧ va_D (va_A [(mo, .inr (5, [.int th, .ref xt, .ref xk, .ref xr, .int (nI nt), .int (nI nk), .int (nI nr), .ref xu, .ref xv, .ref xb, .ref xw, .ref xo, .ref xl, .ref xp, .ref yr, .ref ys, .ref yw, .ref yt, .ref yl, .ref yc, .int (nI 1)]))] sz) [(mo, .inr (5, [.int th, .ref xt, .ref xk, .ref xr, .int (nI nt), .int (nI nk), .int (nI nr), .ref xu, .ref xv, .ref xb, .ref xw, .ref xo, .ref xl, .ref xp, .ref yr, .ref ys, .ref yw, .ref yt, .ref yl, .ref yc, .int (nI 1)]))]) (va_A [(mo, .inr (5, [.int th, .ref xt, .ref xk, .ref xr, .int (nI nt), .int (nI nk), .int (nI nr), .ref xu, .ref xv, .ref xb, .ref xw, .ref xo, .ref xl, .ref xp, .ref yr, .ref ys, .ref yw, .ref yt, .ref yl, .ref yc, .int (nI 1)]))] sz)) (0) (0) (va_A [(mo, .inr (5, [.int th, .ref xt, .ref xk, .ref xr, .int (nI nt), .int (nI nk), .int (nI nr), .ref xu, .ref xv, .ref xb, .ref xw, .ref xo, .ref xl, .ref xp, .ref yr, .ref ys, .ref yw, .ref yt, .ref yl, .ref yc, .int (nI 1)]))] sz) := by
  refine Met.ofW (cc := cMd_mixed) (maxL := 6) (ret := (some .long)) (by decide) rfl ?_
  intro p e s m args below meth c s₁ B hml hv
  obtain ⟨rfl, hsz, hP, hK, hD0, hG⟩ := hv
  have hx := B.exec
  have hb := B.bytes
  have hr := B.returns
  have hts : ∀ w ∈ GT, w.before _ s = true := fun w h => atoms_spec (ws := wMd_mixed) B.pre w (List.mem_cons_of_mem _ h)
  have hown : s.vm.findClass R_Md = some m.cls := findClass_of_methodNamed B.named
  have hlocks := B.notSynchronized
  subst hsz
  have hD := hD0.self (sz := s.heap.size)
  generalize hAe : va_A [(mo, .inr (5, [.int th, .ref xt, .ref xk, .ref xr, .int (nI nt), .int (nI nk), .int (nI nr), .ref xu, .ref xv, .ref xb, .ref xw, .ref xo, .ref xl, .ref xp, .ref yr, .ref ys, .ref yw, .ref yt, .ref yl, .ref yc, .int (nI 1)]))] s.heap.size = A at hD hG ⊢
  have hA : ∀ q : Nat, s.heap.size ≤ q → A q := fun q h => by rw [← hAe]; exact Or.inr h
  have hl := lv_entry ([.ref mo, .long x, .int (nI na), .int (nI nb), .int (nI nc)]) (n := 6) (Nat.le_of_ble_eq_true rfl)
  rw [lg_entry_eq]
  generalize (lg_sl ([.ref mo, .long x, .int (nI na), .int (nI nb), .int (nI nc)]) ++ List.replicate (6 - (lg_sl ([.ref mo, .long x, .int (nI na), .int (nI nb), .int (nI nc)])).length) Slot.unset).toArray = ls at hl ⊢
  have hl : lv_has ls 6 [(0, .ref mo), (1, .long x), (3, .int (nI na)), (4, .int (nI nb)), (5, .int (nI nc))] := hl
  refine cw_start (A := A) hP (fun H locs hP hS => ?_)
  refine lv_aload_n hx hb dMd_mixed_0 rfl (lv_at hl 0 rfl) ?_
  refine lv_lload_n hx hb dMd_mixed_1 rfl (lv_at hl 1 rfl) ?_
  refine lv_iload_n hx hb dMd_mixed_2 rfl (lv_at hl 2 rfl) ?_
  refine rc_l (wr := []) (va_runV (As := [.long x, .int (nI na)]) (rest := []) ⟨hx, hb, hml, hown, hts⟩ (c_r_turnedW l D k tb H.size mo xt xk xr nt nk nr xu xv xb xw xo xl xp yr ys yw yt yl yc th x na hna) (cwV 2 hts (gV gm_618 gm_619 gm_43 gm_57 gm_620) rfl rfl rfl (by decide +kernel) ⟨Nat.le_of_ble_eq_true rfl, Nat.le_of_ble_eq_true rfl⟩) (cP_V hP hD hK hG hS hA [0] (by decide) rfl (ci := 5) (q0 := 0) rfl rfl) rfl rfl hl.1 rfl (lv_room (Nat.le_of_ble_eq_true rfl)) dMd_mixed_3 ⟨Nat.le_of_ble_eq_true rfl, Nat.le_of_ble_eq_true rfl⟩) hS hA hP hD [0] [] rfl rfl (by decide) (by decide) (fun r1 u H locs hw hP hD hS => ?_)
  have hP : va_P D vwCl [(mo, .inr (5, [.int th, .ref xt, .ref xk, .ref xr, .int (nI nt), .int (nI nk), .int (nI nr), .ref xu, .ref xv, .ref xb, .ref xw, .ref xo, .ref xl, .ref xp, .ref yr, .ref ys, .ref yw, .ref yt, .ref yl, .ref yc, .int (nI 1)]))] H := hP
  have hD : va_D A [(mo, .inr (5, [.int th, .ref xt, .ref xk, .ref xr, .int (nI nt), .int (nI nk), .int (nI nr), .ref xu, .ref xv, .ref xb, .ref xw, .ref xo, .ref xl, .ref xp, .ref yr, .ref ys, .ref yw, .ref yt, .ref yl, .ref yc, .int (nI 1)]))] := hD
  subst hw
  refine lv_aload_n hx hb dMd_mixed_6 rfl (lv_at hl 0 rfl) ?_
  refine lv_lload_n hx hb dMd_mixed_7 rfl (lv_at hl 1 rfl) ?_
  refine lv_iload hx hb dMd_mixed_8 (lv_at hl 3 rfl) ?_
  refine rc_l (wr := []) (va_runV (As := [.long x, .int (nI nb)]) (rest := [.long (qTW x na)]) ⟨hx, hb, hml, hown, hts⟩ (c_r_turnedW l D k tb H.size mo xt xk xr nt nk nr xu xv xb xw xo xl xp yr ys yw yt yl yc th x nb hnb) (cwV 2 hts (gV gm_618 gm_619 gm_43 gm_57 gm_620) rfl rfl rfl (by decide +kernel) ⟨Nat.le_of_ble_eq_true rfl, Nat.le_of_ble_eq_true rfl⟩) (cP_V hP hD hK hG hS hA [0] (by decide) rfl (ci := 5) (q0 := 0) rfl rfl) rfl rfl hl.1 rfl (lv_room (Nat.le_of_ble_eq_true rfl)) dMd_mixed_10 ⟨Nat.le_of_ble_eq_true rfl, Nat.le_of_ble_eq_true rfl⟩) hS hA hP hD [0] [] rfl rfl (by decide) (by decide) (fun r1 u H locs hw hP hD hS => ?_)
  have hP : va_P D vwCl [(mo, .inr (5, [.int th, .ref xt, .ref xk, .ref xr, .int (nI nt), .int (nI nk), .int (nI nr), .ref xu, .ref xv, .ref xb, .ref xw, .ref xo, .ref xl, .ref xp, .ref yr, .ref ys, .ref yw, .ref yt, .ref yl, .ref yc, .int (nI 1)]))] H := hP
  have hD : va_D A [(mo, .inr (5, [.int th, .ref xt, .ref xk, .ref xr, .int (nI nt), .int (nI nk), .int (nI nr), .ref xu, .ref xv, .ref xb, .ref xw, .ref xo, .ref xl, .ref xp, .ref yr, .ref ys, .ref yw, .ref yt, .ref yl, .ref yc, .int (nI 1)]))] := hD
  subst hw
  refine lv_lxor hx hb dMd_mixed_13 ?_
  refine lv_aload_n hx hb dMd_mixed_14 rfl (lv_at hl 0 rfl) ?_
  refine lv_lload_n hx hb dMd_mixed_15 rfl (lv_at hl 1 rfl) ?_
  refine lv_iload hx hb dMd_mixed_16 (lv_at hl 4 rfl) ?_
  refine rc_l (wr := []) (va_runV (As := [.long x, .int (nI nc)]) (rest := [.long ((qTW x na) ^^^ (qTW x nb))]) ⟨hx, hb, hml, hown, hts⟩ (c_r_turnedW l D k tb H.size mo xt xk xr nt nk nr xu xv xb xw xo xl xp yr ys yw yt yl yc th x nc hnc) (cwV 2 hts (gV gm_618 gm_619 gm_43 gm_57 gm_620) rfl rfl rfl (by decide +kernel) ⟨Nat.le_of_ble_eq_true rfl, Nat.le_of_ble_eq_true rfl⟩) (cP_V hP hD hK hG hS hA [0] (by decide) rfl (ci := 5) (q0 := 0) rfl rfl) rfl rfl hl.1 rfl (lv_room (Nat.le_of_ble_eq_true rfl)) dMd_mixed_18 ⟨Nat.le_of_ble_eq_true rfl, Nat.le_of_ble_eq_true rfl⟩) hS hA hP hD [0] [] rfl rfl (by decide) (by decide) (fun r1 u H locs hw hP hD hS => ?_)
  have hP : va_P D vwCl [(mo, .inr (5, [.int th, .ref xt, .ref xk, .ref xr, .int (nI nt), .int (nI nk), .int (nI nr), .ref xu, .ref xv, .ref xb, .ref xw, .ref xo, .ref xl, .ref xp, .ref yr, .ref ys, .ref yw, .ref yt, .ref yl, .ref yc, .int (nI 1)]))] H := hP
  have hD : va_D A [(mo, .inr (5, [.int th, .ref xt, .ref xk, .ref xr, .int (nI nt), .int (nI nk), .int (nI nr), .ref xu, .ref xv, .ref xb, .ref xw, .ref xo, .ref xl, .ref xp, .ref yr, .ref ys, .ref yw, .ref yt, .ref yl, .ref yc, .int (nI 1)]))] := hD
  subst hw
  refine lv_lxor hx hb dMd_mixed_21 ?_
  refine W.widen (k := 0) (n := 0) (Nat.le_refl _) (Nat.le_refl _) ?_
  exact W.lret (v := ((qTW x na) ^^^ (qTW x nb)) ^^^ (qTW x nc)) hx hb hr (fun t ht hW => ⟨⟨((qTW x na) ^^^ (qTW x nb)) ^^^ (qTW x nc), (), rfl, rfl, by rw [ht]; exact hP, hD⟩, hS.F ht⟩) hS.2.2 dMd_mixed_22
set_option maxHeartbeats 600000 in
set_option maxRecDepth 100000 in
theorem c_r_shiftedW (l : Launch) (D : va_G) (k : Nat → ClassId) (tb : Nat → Nat) (sz : Nat) (mo xt xk xr nt nk nr xu xv xb xw xo xl xp yr ys yw yt yl yc : Nat) (th : Int32) (x : Int64) (na nb nc : Nat) (hna : na ≤ 64) (hnb : nb ≤ 64) (hnc : nc ≤ 64) : Met l yMd_shifted wMd_shifted ({ frames := 1, cells := 0, slots := 0, locals := 23 }) (cP D k tb [(mo, .inr (5, [.int th, .ref xt, .ref xk, .ref xr, .int (nI nt), .int (nI nk), .int (nI nr), .ref xu, .ref xv, .ref xb, .ref xw, .ref xo, .ref xl, .ref xp, .ref yr, .ref ys, .ref yw, .ref yt, .ref yl, .ref yc, .int (nI 1)]))] sz [.ref mo, .long x, .int (nI na), .int (nI nb), .int (nI nc)]) (va_Ql (fun (r : Int64) (u : Unit) => r = qSW x na nb nc) (fun (u : Unit) (t : State) => va_P D vwCl [(mo, .inr (5, [.int th, .ref xt, .ref xk, .ref xr, .int (nI nt), .int (nI nk), .int (nI nr), .ref xu, .ref xv, .ref xb, .ref xw, .ref xo, .ref xl, .ref xp, .ref yr, .ref ys, .ref yw, .ref yt, .ref yl, .ref yc, .int (nI 1)]))] t.heap ∧ va_D (va_A [(mo, .inr (5, [.int th, .ref xt, .ref xk, .ref xr, .int (nI nt), .int (nI nk), .int (nI nr), .ref xu, .ref xv, .ref xb, .ref xw, .ref xo, .ref xl, .ref xp, .ref yr, .ref ys, .ref yw, .ref yt, .ref yl, .ref yc, .int (nI 1)]))] sz) [(mo, .inr (5, [.int th, .ref xt, .ref xk, .ref xr, .int (nI nt), .int (nI nk), .int (nI nr), .ref xu, .ref xv, .ref xb, .ref xw, .ref xo, .ref xl, .ref xp, .ref yr, .ref ys, .ref yw, .ref yt, .ref yl, .ref yc, .int (nI 1)]))]) (va_A [(mo, .inr (5, [.int th, .ref xt, .ref xk, .ref xr, .int (nI nt), .int (nI nk), .int (nI nr), .ref xu, .ref xv, .ref xb, .ref xw, .ref xo, .ref xl, .ref xp, .ref yr, .ref ys, .ref yw, .ref yt, .ref yl, .ref yc, .int (nI 1)]))] sz)) (0) (0) (va_A [(mo, .inr (5, [.int th, .ref xt, .ref xk, .ref xr, .int (nI nt), .int (nI nk), .int (nI nr), .ref xu, .ref xv, .ref xb, .ref xw, .ref xo, .ref xl, .ref xp, .ref yr, .ref ys, .ref yw, .ref yt, .ref yl, .ref yc, .int (nI 1)]))] sz) := by
  refine Met.ofW (cc := cMd_shifted) (maxL := 6) (ret := (some .long)) (by decide) rfl ?_
  intro p e s m args below meth c s₁ B hml hv
  obtain ⟨rfl, hsz, hP, hK, hD0, hG⟩ := hv
  have hx := B.exec
  have hb := B.bytes
  have hr := B.returns
  have hts : ∀ w ∈ GT, w.before _ s = true := fun w h => atoms_spec (ws := wMd_shifted) B.pre w (List.mem_cons_of_mem _ h)
  have hown : s.vm.findClass R_Md = some m.cls := findClass_of_methodNamed B.named
  have hlocks := B.notSynchronized
  subst hsz
  have hD := hD0.self (sz := s.heap.size)
  generalize hAe : va_A [(mo, .inr (5, [.int th, .ref xt, .ref xk, .ref xr, .int (nI nt), .int (nI nk), .int (nI nr), .ref xu, .ref xv, .ref xb, .ref xw, .ref xo, .ref xl, .ref xp, .ref yr, .ref ys, .ref yw, .ref yt, .ref yl, .ref yc, .int (nI 1)]))] s.heap.size = A at hD hG ⊢
  have hA : ∀ q : Nat, s.heap.size ≤ q → A q := fun q h => by rw [← hAe]; exact Or.inr h
  have hl := lv_entry ([.ref mo, .long x, .int (nI na), .int (nI nb), .int (nI nc)]) (n := 6) (Nat.le_of_ble_eq_true rfl)
  rw [lg_entry_eq]
  generalize (lg_sl ([.ref mo, .long x, .int (nI na), .int (nI nb), .int (nI nc)]) ++ List.replicate (6 - (lg_sl ([.ref mo, .long x, .int (nI na), .int (nI nb), .int (nI nc)])).length) Slot.unset).toArray = ls at hl ⊢
  have hl : lv_has ls 6 [(0, .ref mo), (1, .long x), (3, .int (nI na)), (4, .int (nI nb)), (5, .int (nI nc))] := hl
  refine cw_start (A := A) hP (fun H locs hP hS => ?_)
  refine lv_aload_n hx hb dMd_shifted_0 rfl (lv_at hl 0 rfl) ?_
  refine lv_lload_n hx hb dMd_shifted_1 rfl (lv_at hl 1 rfl) ?_
  refine lv_iload_n hx hb dMd_shifted_2 rfl (lv_at hl 2 rfl) ?_
  refine rc_l (wr := []) (va_runV (As := [.long x, .int (nI na)]) (rest := []) ⟨hx, hb, hml, hown, hts⟩ (c_r_turnedW l D k tb H.size mo xt xk xr nt nk nr xu xv xb xw xo xl xp yr ys yw yt yl yc th x na hna) (cwV 2 hts (gV gm_618 gm_619 gm_43 gm_57 gm_620) rfl rfl rfl (by decide +kernel) ⟨Nat.le_of_ble_eq_true rfl, Nat.le_of_ble_eq_true rfl⟩) (cP_V hP hD hK hG hS hA [0] (by decide) rfl (ci := 5) (q0 := 0) rfl rfl) rfl rfl hl.1 rfl (lv_room (Nat.le_of_ble_eq_true rfl)) dMd_shifted_3 ⟨Nat.le_of_ble_eq_true rfl, Nat.le_of_ble_eq_true rfl⟩) hS hA hP hD [0] [] rfl rfl (by decide) (by decide) (fun r1 u H locs hw hP hD hS => ?_)
  have hP : va_P D vwCl [(mo, .inr (5, [.int th, .ref xt, .ref xk, .ref xr, .int (nI nt), .int (nI nk), .int (nI nr), .ref xu, .ref xv, .ref xb, .ref xw, .ref xo, .ref xl, .ref xp, .ref yr, .ref ys, .ref yw, .ref yt, .ref yl, .ref yc, .int (nI 1)]))] H := hP
  have hD : va_D A [(mo, .inr (5, [.int th, .ref xt, .ref xk, .ref xr, .int (nI nt), .int (nI nk), .int (nI nr), .ref xu, .ref xv, .ref xb, .ref xw, .ref xo, .ref xl, .ref xp, .ref yr, .ref ys, .ref yw, .ref yt, .ref yl, .ref yc, .int (nI 1)]))] := hD
  subst hw
  refine lv_aload_n hx hb dMd_shifted_6 rfl (lv_at hl 0 rfl) ?_
  refine lv_lload_n hx hb dMd_shifted_7 rfl (lv_at hl 1 rfl) ?_
  refine lv_iload hx hb dMd_shifted_8 (lv_at hl 3 rfl) ?_
  refine rc_l (wr := []) (va_runV (As := [.long x, .int (nI nb)]) (rest := [.long (qTW x na)]) ⟨hx, hb, hml, hown, hts⟩ (c_r_turnedW l D k tb H.size mo xt xk xr nt nk nr xu xv xb xw xo xl xp yr ys yw yt yl yc th x nb hnb) (cwV 2 hts (gV gm_618 gm_619 gm_43 gm_57 gm_620) rfl rfl rfl (by decide +kernel) ⟨Nat.le_of_ble_eq_true rfl, Nat.le_of_ble_eq_true rfl⟩) (cP_V hP hD hK hG hS hA [0] (by decide) rfl (ci := 5) (q0 := 0) rfl rfl) rfl rfl hl.1 rfl (lv_room (Nat.le_of_ble_eq_true rfl)) dMd_shifted_10 ⟨Nat.le_of_ble_eq_true rfl, Nat.le_of_ble_eq_true rfl⟩) hS hA hP hD [0] [] rfl rfl (by decide) (by decide) (fun r1 u H locs hw hP hD hS => ?_)
  have hP : va_P D vwCl [(mo, .inr (5, [.int th, .ref xt, .ref xk, .ref xr, .int (nI nt), .int (nI nk), .int (nI nr), .ref xu, .ref xv, .ref xb, .ref xw, .ref xo, .ref xl, .ref xp, .ref yr, .ref ys, .ref yw, .ref yt, .ref yl, .ref yc, .int (nI 1)]))] H := hP
  have hD : va_D A [(mo, .inr (5, [.int th, .ref xt, .ref xk, .ref xr, .int (nI nt), .int (nI nk), .int (nI nr), .ref xu, .ref xv, .ref xb, .ref xw, .ref xo, .ref xl, .ref xp, .ref yr, .ref ys, .ref yw, .ref yt, .ref yl, .ref yc, .int (nI 1)]))] := hD
  subst hw
  refine lv_lxor hx hb dMd_shifted_13 ?_
  refine lv_lload_n hx hb dMd_shifted_14 rfl (lv_at hl 1 rfl) ?_
  refine lv_iload hx hb dMd_shifted_15 (lv_at hl 4 rfl) ?_
  refine lv_lushr (v := lu x (nI nc)) hx hb dMd_shifted_17 rfl ?_
  refine lv_lxor hx hb dMd_shifted_18 ?_
  refine W.widen (k := 0) (n := 0) (Nat.le_refl _) (Nat.le_refl _) ?_
  exact W.lret (v := ((qTW x na) ^^^ (qTW x nb)) ^^^ (lu x (nI nc))) hx hb hr (fun t ht hW => ⟨⟨((qTW x na) ^^^ (qTW x nb)) ^^^ (lu x (nI nc)), (), rfl, rfl, by rw [ht]; exact hP, hD⟩, hS.F ht⟩) hS.2.2 dMd_shifted_19
set_option maxHeartbeats 600000 in
set_option maxRecDepth 100000 in
theorem c_r_fitN (l : Launch) (D : va_G) (k : Nat → ClassId) (tb : Nat → Nat) (sz : Nat) (mo xt xk xr nt nk nr xu xv xb xw xo xl xp yr ys yw yt yl yc : Nat) (th : Int32) (x : Int64) : Met l yMd_fit wMd_fit ({ frames := 0, cells := 0, slots := 0, locals := 0 }) (cP D k tb [(mo, .inr (5, [.int th, .ref xt, .ref xk, .ref xr, .int (nI nt), .int (nI nk), .int (nI nr), .ref xu, .ref xv, .ref xb, .ref xw, .ref xo, .ref xl, .ref xp, .ref yr, .ref ys, .ref yw, .ref yt, .ref yl, .ref yc, .int (nI 0)]))] sz [.ref mo, .long x]) (va_Ql (fun (r : Int64) (u : Unit) => r = qFN x) (fun (u : Unit) (t : State) => va_P D vwCl [(mo, .inr (5, [.int th, .ref xt, .ref xk, .ref xr, .int (nI nt), .int (nI nk), .int (nI nr), .ref xu, .ref xv, .ref xb, .ref xw, .ref xo, .ref xl, .ref xp, .ref yr, .ref ys, .ref yw, .ref yt, .ref yl, .ref yc, .int (nI 0)]))] t.heap ∧ va_D (va_A [(mo, .inr (5, [.int th, .ref xt, .ref xk, .ref xr, .int (nI nt), .int (nI nk), .int (nI nr), .ref xu, .ref xv, .ref xb, .ref xw, .ref xo, .ref xl, .ref xp, .ref yr, .ref ys, .ref yw, .ref yt, .ref yl, .ref yc, .int (nI 0)]))] sz) [(mo, .inr (5, [.int th, .ref xt, .ref xk, .ref xr, .int (nI nt), .int (nI nk), .int (nI nr), .ref xu, .ref xv, .ref xb, .ref xw, .ref xo, .ref xl, .ref xp, .ref yr, .ref ys, .ref yw, .ref yt, .ref yl, .ref yc, .int (nI 0)]))]) (va_A [(mo, .inr (5, [.int th, .ref xt, .ref xk, .ref xr, .int (nI nt), .int (nI nk), .int (nI nr), .ref xu, .ref xv, .ref xb, .ref xw, .ref xo, .ref xl, .ref xp, .ref yr, .ref ys, .ref yw, .ref yt, .ref yl, .ref yc, .int (nI 0)]))] sz)) (0) (0) (va_A [(mo, .inr (5, [.int th, .ref xt, .ref xk, .ref xr, .int (nI nt), .int (nI nk), .int (nI nr), .ref xu, .ref xv, .ref xb, .ref xw, .ref xo, .ref xl, .ref xp, .ref yr, .ref ys, .ref yw, .ref yt, .ref yl, .ref yc, .int (nI 0)]))] sz) := by
  refine Met.ofW (cc := cMd_fit) (maxL := 3) (ret := (some .long)) (by decide) rfl ?_
  intro p e s m args below meth c s₁ B hml hv
  obtain ⟨rfl, hsz, hP, hK, hD0, hG⟩ := hv
  have hx := B.exec
  have hb := B.bytes
  have hr := B.returns
  have hts : ∀ w ∈ GT, w.before _ s = true := fun w h => atoms_spec (ws := wMd_fit) B.pre w (List.mem_cons_of_mem _ h)
  have hown : s.vm.findClass R_Md = some m.cls := findClass_of_methodNamed B.named
  have hlocks := B.notSynchronized
  subst hsz
  have hD := hD0.self (sz := s.heap.size)
  generalize hAe : va_A [(mo, .inr (5, [.int th, .ref xt, .ref xk, .ref xr, .int (nI nt), .int (nI nk), .int (nI nr), .ref xu, .ref xv, .ref xb, .ref xw, .ref xo, .ref xl, .ref xp, .ref yr, .ref ys, .ref yw, .ref yt, .ref yl, .ref yc, .int (nI 0)]))] s.heap.size = A at hD hG ⊢
  have hA : ∀ q : Nat, s.heap.size ≤ q → A q := fun q h => by rw [← hAe]; exact Or.inr h
  have hl := lv_entry ([.ref mo, .long x]) (n := 3) (Nat.le_of_ble_eq_true rfl)
  rw [lg_entry_eq]
  generalize (lg_sl ([.ref mo, .long x]) ++ List.replicate (3 - (lg_sl ([.ref mo, .long x])).length) Slot.unset).toArray = ls at hl ⊢
  have hl : lv_has ls 3 [(0, .ref mo), (1, .long x)] := hl
  refine cw_start (A := A) hP (fun H locs hP hS => ?_)
  refine lv_aload_n hx hb dMd_fit_0 rfl (lv_at hl 0 rfl) ?_
  refine va_get (D := D) (ci := 5) (v := .int (nI 0)) (C := R_Md) (T := T_Md) (N := 21) hx hb hts in_Md hown hK hP 0 rfl rfl 20 (by decide) (hts _ gm_545) (fun _ h9 => h9) rfl dMd_fit_1 ?_
  refine rz_eq (tgt := 11) hx hb dMd_fit_4 (by decide) (by omega) (fun c_4 => ?_) (fun c_4 => absurd c_4 (by omega))
  refine lv_lload_n hx hb dMd_fit_11 rfl (lv_at hl 1 rfl) ?_
  refine lv_ldc2 (v := 4294967295) hx hb hown (hts _ gm_524) dMd_fit_12 ?_
  refine lv_land hx hb dMd_fit_15 ?_
  refine W.widen (k := 0) (n := 0) (Nat.le_refl _) (Nat.le_refl _) ?_
  exact W.lret (v := x &&& 4294967295) hx hb hr (fun t ht hW => ⟨⟨x &&& 4294967295, (), rfl, rfl, by rw [ht]; exact hP, hD⟩, hS.F ht⟩) hS.2.2 dMd_fit_16
set_option maxHeartbeats 600000 in
set_option maxRecDepth 100000 in
theorem c_r_turnedN (l : Launch) (D : va_G) (k : Nat → ClassId) (tb : Nat → Nat) (sz : Nat) (mo xt xk xr nt nk nr xu xv xb xw xo xl xp yr ys yw yt yl yc : Nat) (th : Int32) (x : Int64) (n : Nat) (hn : n ≤ 32) : Met l yMd_turned wMd_turned ({ frames := 0, cells := 0, slots := 0, locals := 0 }) (cP D k tb [(mo, .inr (5, [.int th, .ref xt, .ref xk, .ref xr, .int (nI nt), .int (nI nk), .int (nI nr), .ref xu, .ref xv, .ref xb, .ref xw, .ref xo, .ref xl, .ref xp, .ref yr, .ref ys, .ref yw, .ref yt, .ref yl, .ref yc, .int (nI 0)]))] sz [.ref mo, .long x, .int (nI n)]) (va_Ql (fun (r : Int64) (u : Unit) => r = qTN x n) (fun (u : Unit) (t : State) => va_P D vwCl [(mo, .inr (5, [.int th, .ref xt, .ref xk, .ref xr, .int (nI nt), .int (nI nk), .int (nI nr), .ref xu, .ref xv, .ref xb, .ref xw, .ref xo, .ref xl, .ref xp, .ref yr, .ref ys, .ref yw, .ref yt, .ref yl, .ref yc, .int (nI 0)]))] t.heap ∧ va_D (va_A [(mo, .inr (5, [.int th, .ref xt, .ref xk, .ref xr, .int (nI nt), .int (nI nk), .int (nI nr), .ref xu, .ref xv, .ref xb, .ref xw, .ref xo, .ref xl, .ref xp, .ref yr, .ref ys, .ref yw, .ref yt, .ref yl, .ref yc, .int (nI 0)]))] sz) [(mo, .inr (5, [.int th, .ref xt, .ref xk, .ref xr, .int (nI nt), .int (nI nk), .int (nI nr), .ref xu, .ref xv, .ref xb, .ref xw, .ref xo, .ref xl, .ref xp, .ref yr, .ref ys, .ref yw, .ref yt, .ref yl, .ref yc, .int (nI 0)]))]) (va_A [(mo, .inr (5, [.int th, .ref xt, .ref xk, .ref xr, .int (nI nt), .int (nI nk), .int (nI nr), .ref xu, .ref xv, .ref xb, .ref xw, .ref xo, .ref xl, .ref xp, .ref yr, .ref ys, .ref yw, .ref yt, .ref yl, .ref yc, .int (nI 0)]))] sz)) (0) (0) (va_A [(mo, .inr (5, [.int th, .ref xt, .ref xk, .ref xr, .int (nI nt), .int (nI nk), .int (nI nr), .ref xu, .ref xv, .ref xb, .ref xw, .ref xo, .ref xl, .ref xp, .ref yr, .ref ys, .ref yw, .ref yt, .ref yl, .ref yc, .int (nI 0)]))] sz) := by
  refine Met.ofW (cc := cMd_turned) (maxL := 4) (ret := (some .long)) (by decide) rfl ?_
  intro p e s m args below meth c s₁ B hml hv
  obtain ⟨rfl, hsz, hP, hK, hD0, hG⟩ := hv
  have hx := B.exec
  have hb := B.bytes
  have hr := B.returns
  have hts : ∀ w ∈ GT, w.before _ s = true := fun w h => atoms_spec (ws := wMd_turned) B.pre w (List.mem_cons_of_mem _ h)
  have hown : s.vm.findClass R_Md = some m.cls := findClass_of_methodNamed B.named
  have hlocks := B.notSynchronized
  subst hsz
  have hD := hD0.self (sz := s.heap.size)
  generalize hAe : va_A [(mo, .inr (5, [.int th, .ref xt, .ref xk, .ref xr, .int (nI nt), .int (nI nk), .int (nI nr), .ref xu, .ref xv, .ref xb, .ref xw, .ref xo, .ref xl, .ref xp, .ref yr, .ref ys, .ref yw, .ref yt, .ref yl, .ref yc, .int (nI 0)]))] s.heap.size = A at hD hG ⊢
  have hA : ∀ q : Nat, s.heap.size ≤ q → A q := fun q h => by rw [← hAe]; exact Or.inr h
  have hl := lv_entry ([.ref mo, .long x, .int (nI n)]) (n := 4) (Nat.le_of_ble_eq_true rfl)
  rw [lg_entry_eq]
  generalize (lg_sl ([.ref mo, .long x, .int (nI n)]) ++ List.replicate (4 - (lg_sl ([.ref mo, .long x, .int (nI n)])).length) Slot.unset).toArray = ls at hl ⊢
  have hl : lv_has ls 4 [(0, .ref mo), (1, .long x), (3, .int (nI n))] := hl
  refine cw_start (A := A) hP (fun H locs hP hS => ?_)
  refine lv_aload_n hx hb dMd_turned_0 rfl (lv_at hl 0 rfl) ?_
  refine va_get (D := D) (ci := 5) (v := .int (nI 0)) (C := R_Md) (T := T_Md) (N := 21) hx hb hts in_Md hown hK hP 0 rfl rfl 20 (by decide) (hts _ gm_545) (fun _ h9 => h9) rfl dMd_turned_1 ?_
  refine rz_eq (tgt := 20) hx hb dMd_turned_4 (by decide) (by omega) (fun c_4 => ?_) (fun c_4 => absurd c_4 (by omega))
  refine lv_lload_n hx hb dMd_turned_20 rfl (lv_at hl 1 rfl) ?_
  refine lv_iload_n hx hb dMd_turned_21 rfl (lv_at hl 2 rfl) ?_
  refine lv_lushr (v := lu x (nI n)) hx hb dMd_turned_22 rfl ?_
  refine lv_lload_n hx hb dMd_turned_23 rfl (lv_at hl 1 rfl) ?_
  refine lv_bipush (v := nI 32) hx hb dMd_turned_24 (by decide) ?_
  refine lv_iload_n hx hb dMd_turned_26 rfl (lv_at hl 2 rfl) ?_
  refine ri_sub hx hb (by omega) dMd_turned_27 ?_
  refine lv_lshl (v := ll x (nI (32 - n))) hx hb dMd_turned_28 rfl ?_
  refine lv_lor hx hb dMd_turned_29 ?_
  refine lv_ldc2 (v := 4294967295) hx hb hown (hts _ gm_524) dMd_turned_30 ?_
  refine lv_land hx hb dMd_turned_33 ?_
  refine W.widen (k := 0) (n := 0) (Nat.le_refl _) (Nat.le_refl _) ?_
  exact W.lret (v := ((lu x (nI n)) ||| (ll x (nI (32 - n)))) &&& 4294967295) hx hb hr (fun t ht hW => ⟨⟨((lu x (nI n)) ||| (ll x (nI (32 - n)))) &&& 4294967295, (), rfl, rfl, by rw [ht]; exact hP, hD⟩, hS.F ht⟩) hS.2.2 dMd_turned_34
set_option maxHeartbeats 600000 in
set_option maxRecDepth 100000 in
theorem c_r_mixedN (l : Launch) (D : va_G) (k : Nat → ClassId) (tb : Nat → Nat) (sz : Nat) (mo xt xk xr nt nk nr xu xv xb xw xo xl xp yr ys yw yt yl yc : Nat) (th : Int32) (x : Int64) (na nb nc : Nat) (hna : na ≤ 32) (hnb : nb ≤ 32) (hnc : nc ≤ 32) : Met l yMd_mixed wMd_mixed ({ frames := 1, cells := 0, slots := 0, locals := 23 }) (cP D k tb [(mo, .inr (5, [.int th, .ref xt, .ref xk, .ref xr, .int (nI nt), .int (nI nk), .int (nI nr), .ref xu, .ref xv, .ref xb, .ref xw, .ref xo, .ref xl, .ref xp, .ref yr, .ref ys, .ref yw, .ref yt, .ref yl, .ref yc, .int (nI 0)]))] sz [.ref mo, .long x, .int (nI na), .int (nI nb), .int (nI nc)]) (va_Ql (fun (r : Int64) (u : Unit) => r = qMN x na nb nc) (fun (u : Unit) (t : State) => va_P D vwCl [(mo, .inr (5, [.int th, .ref xt, .ref xk, .ref xr, .int (nI nt), .int (nI nk), .int (nI nr), .ref xu, .ref xv, .ref xb, .ref xw, .ref xo, .ref xl, .ref xp, .ref yr, .ref ys, .ref yw, .ref yt, .ref yl, .ref yc, .int (nI 0)]))] t.heap ∧ va_D (va_A [(mo, .inr (5, [.int th, .ref xt, .ref xk, .ref xr, .int (nI nt), .int (nI nk), .int (nI nr), .ref xu, .ref xv, .ref xb, .ref xw, .ref xo, .ref xl, .ref xp, .ref yr, .ref ys, .ref yw, .ref yt, .ref yl, .ref yc, .int (nI 0)]))] sz) [(mo, .inr (5, [.int th, .ref xt, .ref xk, .ref xr, .int (nI nt), .int (nI nk), .int (nI nr), .ref xu, .ref xv, .ref xb, .ref xw, .ref xo, .ref xl, .ref xp, .ref yr, .ref ys, .ref yw, .ref yt, .ref yl, .ref yc, .int (nI 0)]))]) (va_A [(mo, .inr (5, [.int th, .ref xt, .ref xk, .ref xr, .int (nI nt), .int (nI nk), .int (nI nr), .ref xu, .ref xv, .ref xb, .ref xw, .ref xo, .ref xl, .ref xp, .ref yr, .ref ys, .ref yw, .ref yt, .ref yl, .ref yc, .int (nI 0)]))] sz)) (0) (0) (va_A [(mo, .inr (5, [.int th, .ref xt, .ref xk, .ref xr, .int (nI nt), .int (nI nk), .int (nI nr), .ref xu, .ref xv, .ref xb, .ref xw, .ref xo, .ref xl, .ref xp, .ref yr, .ref ys, .ref yw, .ref yt, .ref yl, .ref yc, .int (nI 0)]))] sz) := by
  refine Met.ofW (cc := cMd_mixed) (maxL := 6) (ret := (some .long)) (by decide) rfl ?_
  intro p e s m args below meth c s₁ B hml hv
  obtain ⟨rfl, hsz, hP, hK, hD0, hG⟩ := hv
  have hx := B.exec
  have hb := B.bytes
  have hr := B.returns
  have hts : ∀ w ∈ GT, w.before _ s = true := fun w h => atoms_spec (ws := wMd_mixed) B.pre w (List.mem_cons_of_mem _ h)
  have hown : s.vm.findClass R_Md = some m.cls := findClass_of_methodNamed B.named
  have hlocks := B.notSynchronized
  subst hsz
  have hD := hD0.self (sz := s.heap.size)
  generalize hAe : va_A [(mo, .inr (5, [.int th, .ref xt, .ref xk, .ref xr, .int (nI nt), .int (nI nk), .int (nI nr), .ref xu, .ref xv, .ref xb, .ref xw, .ref xo, .ref xl, .ref xp, .ref yr, .ref ys, .ref yw, .ref yt, .ref yl, .ref yc, .int (nI 0)]))] s.heap.size = A at hD hG ⊢
  have hA : ∀ q : Nat, s.heap.size ≤ q → A q := fun q h => by rw [← hAe]; exact Or.inr h
  have hl := lv_entry ([.ref mo, .long x, .int (nI na), .int (nI nb), .int (nI nc)]) (n := 6) (Nat.le_of_ble_eq_true rfl)
  rw [lg_entry_eq]
  generalize (lg_sl ([.ref mo, .long x, .int (nI na), .int (nI nb), .int (nI nc)]) ++ List.replicate (6 - (lg_sl ([.ref mo, .long x, .int (nI na), .int (nI nb), .int (nI nc)])).length) Slot.unset).toArray = ls at hl ⊢
  have hl : lv_has ls 6 [(0, .ref mo), (1, .long x), (3, .int (nI na)), (4, .int (nI nb)), (5, .int (nI nc))] := hl
  refine cw_start (A := A) hP (fun H locs hP hS => ?_)
  refine lv_aload_n hx hb dMd_mixed_0 rfl (lv_at hl 0 rfl) ?_
  refine lv_lload_n hx hb dMd_mixed_1 rfl (lv_at hl 1 rfl) ?_
  refine lv_iload_n hx hb dMd_mixed_2 rfl (lv_at hl 2 rfl) ?_
  refine rc_l (wr := []) (va_runV (As := [.long x, .int (nI na)]) (rest := []) ⟨hx, hb, hml, hown, hts⟩ (c_r_turnedN l D k tb H.size mo xt xk xr nt nk nr xu xv xb xw xo xl xp yr ys yw yt yl yc th x na hna) (cwV 2 hts (gV gm_618 gm_619 gm_43 gm_57 gm_620) rfl rfl rfl (by decide +kernel) ⟨Nat.le_of_ble_eq_true rfl, Nat.le_of_ble_eq_true rfl⟩) (cP_V hP hD hK hG hS hA [0] (by decide) rfl (ci := 5) (q0 := 0) rfl rfl) rfl rfl hl.1 rfl (lv_room (Nat.le_of_ble_eq_true rfl)) dMd_mixed_3 ⟨Nat.le_of_ble_eq_true rfl, Nat.le_of_ble_eq_true rfl⟩) hS hA hP hD [0] [] rfl rfl (by decide) (by decide) (fun r1 u H locs hw hP hD hS => ?_)
  have hP : va_P D vwCl [(mo, .inr (5, [.int th, .ref xt, .ref xk, .ref xr, .int (nI nt), .int (nI nk), .int (nI nr), .ref xu, .ref xv, .ref xb, .ref xw, .ref xo, .ref xl, .ref xp, .ref yr, .ref ys, .ref yw, .ref yt, .ref yl, .ref yc, .int (nI 0)]))] H := hP
  have hD : va_D A [(mo, .inr (5, [.int th, .ref xt, .ref xk, .ref xr, .int (nI nt), .int (nI nk), .int (nI nr), .ref xu, .ref xv, .ref xb, .ref xw, .ref xo, .ref xl, .ref xp, .ref yr, .ref ys, .ref yw, .ref yt, .ref yl, .ref yc, .int (nI 0)]))] := hD
  subst hw
  refine lv_aload_n hx hb dMd_mixed_6 rfl (lv_at hl 0 rfl) ?_
  refine lv_lload_n hx hb dMd_mixed_7 rfl (lv_at hl 1 rfl) ?_
  refine lv_iload hx hb dMd_mixed_8 (lv_at hl 3 rfl) ?_
  refine rc_l (wr := []) (va_runV (As := [.long x, .int (nI nb)]) (rest := [.long (qTN x na)]) ⟨hx, hb, hml, hown, hts⟩ (c_r_turnedN l D k tb H.size mo xt xk xr nt nk nr xu xv xb xw xo xl xp yr ys yw yt yl yc th x nb hnb) (cwV 2 hts (gV gm_618 gm_619 gm_43 gm_57 gm_620) rfl rfl rfl (by decide +kernel) ⟨Nat.le_of_ble_eq_true rfl, Nat.le_of_ble_eq_true rfl⟩) (cP_V hP hD hK hG hS hA [0] (by decide) rfl (ci := 5) (q0 := 0) rfl rfl) rfl rfl hl.1 rfl (lv_room (Nat.le_of_ble_eq_true rfl)) dMd_mixed_10 ⟨Nat.le_of_ble_eq_true rfl, Nat.le_of_ble_eq_true rfl⟩) hS hA hP hD [0] [] rfl rfl (by decide) (by decide) (fun r1 u H locs hw hP hD hS => ?_)
  have hP : va_P D vwCl [(mo, .inr (5, [.int th, .ref xt, .ref xk, .ref xr, .int (nI nt), .int (nI nk), .int (nI nr), .ref xu, .ref xv, .ref xb, .ref xw, .ref xo, .ref xl, .ref xp, .ref yr, .ref ys, .ref yw, .ref yt, .ref yl, .ref yc, .int (nI 0)]))] H := hP
  have hD : va_D A [(mo, .inr (5, [.int th, .ref xt, .ref xk, .ref xr, .int (nI nt), .int (nI nk), .int (nI nr), .ref xu, .ref xv, .ref xb, .ref xw, .ref xo, .ref xl, .ref xp, .ref yr, .ref ys, .ref yw, .ref yt, .ref yl, .ref yc, .int (nI 0)]))] := hD
  subst hw
  refine lv_lxor hx hb dMd_mixed_13 ?_
  refine lv_aload_n hx hb dMd_mixed_14 rfl (lv_at hl 0 rfl) ?_
  refine lv_lload_n hx hb dMd_mixed_15 rfl (lv_at hl 1 rfl) ?_
  refine lv_iload hx hb dMd_mixed_16 (lv_at hl 4 rfl) ?_
  refine rc_l (wr := []) (va_runV (As := [.long x, .int (nI nc)]) (rest := [.long ((qTN x na) ^^^ (qTN x nb))]) ⟨hx, hb, hml, hown, hts⟩ (c_r_turnedN l D k tb H.size mo xt xk xr nt nk nr xu xv xb xw xo xl xp yr ys yw yt yl yc th x nc hnc) (cwV 2 hts (gV gm_618 gm_619 gm_43 gm_57 gm_620) rfl rfl rfl (by decide +kernel) ⟨Nat.le_of_ble_eq_true rfl, Nat.le_of_ble_eq_true rfl⟩) (cP_V hP hD hK hG hS hA [0] (by decide) rfl (ci := 5) (q0 := 0) rfl rfl) rfl rfl hl.1 rfl (lv_room (Nat.le_of_ble_eq_true rfl)) dMd_mixed_18 ⟨Nat.le_of_ble_eq_true rfl, Nat.le_of_ble_eq_true rfl⟩) hS hA hP hD [0] [] rfl rfl (by decide) (by decide) (fun r1 u H locs hw hP hD hS => ?_)
  have hP : va_P D vwCl [(mo, .inr (5, [.int th, .ref xt, .ref xk, .ref xr, .int (nI nt), .int (nI nk), .int (nI nr), .ref xu, .ref xv, .ref xb, .ref xw, .ref xo, .ref xl, .ref xp, .ref yr, .ref ys, .ref yw, .ref yt, .ref yl, .ref yc, .int (nI 0)]))] H := hP
  have hD : va_D A [(mo, .inr (5, [.int th, .ref xt, .ref xk, .ref xr, .int (nI nt), .int (nI nk), .int (nI nr), .ref xu, .ref xv, .ref xb, .ref xw, .ref xo, .ref xl, .ref xp, .ref yr, .ref ys, .ref yw, .ref yt, .ref yl, .ref yc, .int (nI 0)]))] := hD
  subst hw
  refine lv_lxor hx hb dMd_mixed_21 ?_
  refine W.widen (k := 0) (n := 0) (Nat.le_refl _) (Nat.le_refl _) ?_
  exact W.lret (v := ((qTN x na) ^^^ (qTN x nb)) ^^^ (qTN x nc)) hx hb hr (fun t ht hW => ⟨⟨((qTN x na) ^^^ (qTN x nb)) ^^^ (qTN x nc), (), rfl, rfl, by rw [ht]; exact hP, hD⟩, hS.F ht⟩) hS.2.2 dMd_mixed_22
set_option maxHeartbeats 600000 in
set_option maxRecDepth 100000 in
theorem c_r_shiftedN (l : Launch) (D : va_G) (k : Nat → ClassId) (tb : Nat → Nat) (sz : Nat) (mo xt xk xr nt nk nr xu xv xb xw xo xl xp yr ys yw yt yl yc : Nat) (th : Int32) (x : Int64) (na nb nc : Nat) (hna : na ≤ 32) (hnb : nb ≤ 32) (hnc : nc ≤ 32) : Met l yMd_shifted wMd_shifted ({ frames := 1, cells := 0, slots := 0, locals := 23 }) (cP D k tb [(mo, .inr (5, [.int th, .ref xt, .ref xk, .ref xr, .int (nI nt), .int (nI nk), .int (nI nr), .ref xu, .ref xv, .ref xb, .ref xw, .ref xo, .ref xl, .ref xp, .ref yr, .ref ys, .ref yw, .ref yt, .ref yl, .ref yc, .int (nI 0)]))] sz [.ref mo, .long x, .int (nI na), .int (nI nb), .int (nI nc)]) (va_Ql (fun (r : Int64) (u : Unit) => r = qSN x na nb nc) (fun (u : Unit) (t : State) => va_P D vwCl [(mo, .inr (5, [.int th, .ref xt, .ref xk, .ref xr, .int (nI nt), .int (nI nk), .int (nI nr), .ref xu, .ref xv, .ref xb, .ref xw, .ref xo, .ref xl, .ref xp, .ref yr, .ref ys, .ref yw, .ref yt, .ref yl, .ref yc, .int (nI 0)]))] t.heap ∧ va_D (va_A [(mo, .inr (5, [.int th, .ref xt, .ref xk, .ref xr, .int (nI nt), .int (nI nk), .int (nI nr), .ref xu, .ref xv, .ref xb, .ref xw, .ref xo, .ref xl, .ref xp, .ref yr, .ref ys, .ref yw, .ref yt, .ref yl, .ref yc, .int (nI 0)]))] sz) [(mo, .inr (5, [.int th, .ref xt, .ref xk, .ref xr, .int (nI nt), .int (nI nk), .int (nI nr), .ref xu, .ref xv, .ref xb, .ref xw, .ref xo, .ref xl, .ref xp, .ref yr, .ref ys, .ref yw, .ref yt, .ref yl, .ref yc, .int (nI 0)]))]) (va_A [(mo, .inr (5, [.int th, .ref xt, .ref xk, .ref xr, .int (nI nt), .int (nI nk), .int (nI nr), .ref xu, .ref xv, .ref xb, .ref xw, .ref xo, .ref xl, .ref xp, .ref yr, .ref ys, .ref yw, .ref yt, .ref yl, .ref yc, .int (nI 0)]))] sz)) (0) (0) (va_A [(mo, .inr (5, [.int th, .ref xt, .ref xk, .ref xr, .int (nI nt), .int (nI nk), .int (nI nr), .ref xu, .ref xv, .ref xb, .ref xw, .ref xo, .ref xl, .ref xp, .ref yr, .ref ys, .ref yw, .ref yt, .ref yl, .ref yc, .int (nI 0)]))] sz) := by
  refine Met.ofW (cc := cMd_shifted) (maxL := 6) (ret := (some .long)) (by decide) rfl ?_
  intro p e s m args below meth c s₁ B hml hv
  obtain ⟨rfl, hsz, hP, hK, hD0, hG⟩ := hv
  have hx := B.exec
  have hb := B.bytes
  have hr := B.returns
  have hts : ∀ w ∈ GT, w.before _ s = true := fun w h => atoms_spec (ws := wMd_shifted) B.pre w (List.mem_cons_of_mem _ h)
  have hown : s.vm.findClass R_Md = some m.cls := findClass_of_methodNamed B.named
  have hlocks := B.notSynchronized
  subst hsz
  have hD := hD0.self (sz := s.heap.size)
  generalize hAe : va_A [(mo, .inr (5, [.int th, .ref xt, .ref xk, .ref xr, .int (nI nt), .int (nI nk), .int (nI nr), .ref xu, .ref xv, .ref xb, .ref xw, .ref xo, .ref xl, .ref xp, .ref yr, .ref ys, .ref yw, .ref yt, .ref yl, .ref yc, .int (nI 0)]))] s.heap.size = A at hD hG ⊢
  have hA : ∀ q : Nat, s.heap.size ≤ q → A q := fun q h => by rw [← hAe]; exact Or.inr h
  have hl := lv_entry ([.ref mo, .long x, .int (nI na), .int (nI nb), .int (nI nc)]) (n := 6) (Nat.le_of_ble_eq_true rfl)
  rw [lg_entry_eq]
  generalize (lg_sl ([.ref mo, .long x, .int (nI na), .int (nI nb), .int (nI nc)]) ++ List.replicate (6 - (lg_sl ([.ref mo, .long x, .int (nI na), .int (nI nb), .int (nI nc)])).length) Slot.unset).toArray = ls at hl ⊢
  have hl : lv_has ls 6 [(0, .ref mo), (1, .long x), (3, .int (nI na)), (4, .int (nI nb)), (5, .int (nI nc))] := hl
  refine cw_start (A := A) hP (fun H locs hP hS => ?_)
  refine lv_aload_n hx hb dMd_shifted_0 rfl (lv_at hl 0 rfl) ?_
  refine lv_lload_n hx hb dMd_shifted_1 rfl (lv_at hl 1 rfl) ?_
  refine lv_iload_n hx hb dMd_shifted_2 rfl (lv_at hl 2 rfl) ?_
  refine rc_l (wr := []) (va_runV (As := [.long x, .int (nI na)]) (rest := []) ⟨hx, hb, hml, hown, hts⟩ (c_r_turnedN l D k tb H.size mo xt xk xr nt nk nr xu xv xb xw xo xl xp yr ys yw yt yl yc th x na hna) (cwV 2 hts (gV gm_618 gm_619 gm_43 gm_57 gm_620) rfl rfl rfl (by decide +kernel) ⟨Nat.le_of_ble_eq_true rfl, Nat.le_of_ble_eq_true rfl⟩) (cP_V hP hD hK hG hS hA [0] (by decide) rfl (ci := 5) (q0 := 0) rfl rfl) rfl rfl hl.1 rfl (lv_room (Nat.le_of_ble_eq_true rfl)) dMd_shifted_3 ⟨Nat.le_of_ble_eq_true rfl, Nat.le_of_ble_eq_true rfl⟩) hS hA hP hD [0] [] rfl rfl (by decide) (by decide) (fun r1 u H locs hw hP hD hS => ?_)
  have hP : va_P D vwCl [(mo, .inr (5, [.int th, .ref xt, .ref xk, .ref xr, .int (nI nt), .int (nI nk), .int (nI nr), .ref xu, .ref xv, .ref xb, .ref xw, .ref xo, .ref xl, .ref xp, .ref yr, .ref ys, .ref yw, .ref yt, .ref yl, .ref yc, .int (nI 0)]))] H := hP
  have hD : va_D A [(mo, .inr (5, [.int th, .ref xt, .ref xk, .ref xr, .int (nI nt), .int (nI nk), .int (nI nr), .ref xu, .ref xv, .ref xb, .ref xw, .ref xo, .ref xl, .ref xp, .ref yr, .ref ys, .ref yw, .ref yt, .ref yl, .ref yc, .int (nI 0)]))] := hD
  subst hw
  refine lv_aload_n hx hb dMd_shifted_6 rfl (lv_at hl 0 rfl) ?_
  refine lv_lload_n hx hb dMd_shifted_7 rfl (lv_at hl 1 rfl) ?_
  refine lv_iload hx hb dMd_shifted_8 (lv_at hl 3 rfl) ?_
  refine rc_l (wr := []) (va_runV (As := [.long x, .int (nI nb)]) (rest := [.long (qTN x na)]) ⟨hx, hb, hml, hown, hts⟩ (c_r_turnedN l D k tb H.size mo xt xk xr nt nk nr xu xv xb xw xo xl xp yr ys yw yt yl yc th x nb hnb) (cwV 2 hts (gV gm_618 gm_619 gm_43 gm_57 gm_620) rfl rfl rfl (by decide +kernel) ⟨Nat.le_of_ble_eq_true rfl, Nat.le_of_ble_eq_true rfl⟩) (cP_V hP hD hK hG hS hA [0] (by decide) rfl (ci := 5) (q0 := 0) rfl rfl) rfl rfl hl.1 rfl (lv_room (Nat.le_of_ble_eq_true rfl)) dMd_shifted_10 ⟨Nat.le_of_ble_eq_true rfl, Nat.le_of_ble_eq_true rfl⟩) hS hA hP hD [0] [] rfl rfl (by decide) (by decide) (fun r1 u H locs hw hP hD hS => ?_)
  have hP : va_P D vwCl [(mo, .inr (5, [.int th, .ref xt, .ref xk, .ref xr, .int (nI nt), .int (nI nk), .int (nI nr), .ref xu, .ref xv, .ref xb, .ref xw, .ref xo, .ref xl, .ref xp, .ref yr, .ref ys, .ref yw, .ref yt, .ref yl, .ref yc, .int (nI 0)]))] H := hP
  have hD : va_D A [(mo, .inr (5, [.int th, .ref xt, .ref xk, .ref xr, .int (nI nt), .int (nI nk), .int (nI nr), .ref xu, .ref xv, .ref xb, .ref xw, .ref xo, .ref xl, .ref xp, .ref yr, .ref ys, .ref yw, .ref yt, .ref yl, .ref yc, .int (nI 0)]))] := hD
  subst hw
  refine lv_lxor hx hb dMd_shifted_13 ?_
  refine lv_lload_n hx hb dMd_shifted_14 rfl (lv_at hl 1 rfl) ?_
  refine lv_iload hx hb dMd_shifted_15 (lv_at hl 4 rfl) ?_
  refine lv_lushr (v := lu x (nI nc)) hx hb dMd_shifted_17 rfl ?_
  refine lv_lxor hx hb dMd_shifted_18 ?_
  refine W.widen (k := 0) (n := 0) (Nat.le_refl _) (Nat.le_refl _) ?_
  exact W.lret (v := ((qTN x na) ^^^ (qTN x nb)) ^^^ (lu x (nI nc))) hx hb hr (fun t ht hW => ⟨⟨((qTN x na) ^^^ (qTN x nb)) ^^^ (lu x (nI nc)), (), rfl, rfl, by rw [ht]; exact hP, hD⟩, hS.F ht⟩) hS.2.2 dMd_shifted_19
set_option maxHeartbeats 600000 in
set_option maxRecDepth 100000 in
theorem c_r_padded (l : Launch) (D : va_G) (k : Nat → ClassId) (tb : Nat → Nat) (sz : Nat) (xa cap fo n i al : Nat) (f : Nat → Int8) (hcap : cap < 1000000) (hn : fo + n ≤ cap) (hi : i < al) (hal : 8 ≤ al) (hal2 : al < 1000000) : Met l yMd_padded wMd_padded ({ frames := 0, cells := 0, slots := 0, locals := 0 }) (cP D k tb [(xa, .inl (k 0, cap, .inl (by_ f)))] sz [.ref xa, .int (nI fo), .int (nI n), .int (nI i), .int (nI al)]) (va_Qi (fun (r : Int32) (u : Unit) => r = qPd f fo n i al) (fun (u : Unit) (t : State) => va_P D vwCl [(xa, .inl (k 0, cap, .inl (by_ f)))] t.heap ∧ va_D (va_A [(xa, .inl (k 0, cap, .inl (by_ f)))] sz) [(xa, .inl (k 0, cap, .inl (by_ f)))]) (va_A [(xa, .inl (k 0, cap, .inl (by_ f)))] sz)) (0) (0) (va_A [(xa, .inl (k 0, cap, .inl (by_ f)))] sz) := by
  refine Met.ofW (cc := cMd_padded) (maxL := 5) (ret := (some .int)) (by decide) rfl ?_
  intro p e s m args below meth c s₁ B hml hv
  obtain ⟨rfl, hsz, hP, hK, hD0, hG⟩ := hv
  have hx := B.exec
  have hb := B.bytes
  have hr := B.returns
  have hts : ∀ w ∈ GT, w.before _ s = true := fun w h => atoms_spec (ws := wMd_padded) B.pre w (List.mem_cons_of_mem _ h)
  have hown : s.vm.findClass R_Md = some m.cls := findClass_of_methodNamed B.named
  have hlocks := B.notSynchronized
  subst hsz
  have hD := hD0.self (sz := s.heap.size)
  generalize hAe : va_A [(xa, .inl (k 0, cap, .inl (by_ f)))] s.heap.size = A at hD hG ⊢
  have hA : ∀ q : Nat, s.heap.size ≤ q → A q := fun q h => by rw [← hAe]; exact Or.inr h
  have hl := lv_entry ([.ref xa, .int (nI fo), .int (nI n), .int (nI i), .int (nI al)]) (n := 5) (Nat.le_of_ble_eq_true rfl)
  rw [lg_entry_eq]
  generalize (lg_sl ([.ref xa, .int (nI fo), .int (nI n), .int (nI i), .int (nI al)]) ++ List.replicate (5 - (lg_sl ([.ref xa, .int (nI fo), .int (nI n), .int (nI i), .int (nI al)])).length) Slot.unset).toArray = ls at hl ⊢
  have hl : lv_has ls 5 [(0, .ref xa), (1, .int (nI fo)), (2, .int (nI n)), (3, .int (nI i)), (4, .int (nI al))] := hl
  refine cw_start (A := A) hP (fun H locs hP hS => ?_)
  refine lv_iload_n hx hb dMd_padded_0 rfl (lv_at hl 3 rfl) ?_
  refine lv_iload_n hx hb dMd_padded_1 rfl (lv_at hl 2 rfl) ?_
  refine ri_ge (tgt := 15) hx hb dMd_padded_2 (by decide) (by omega) (by omega) (fun c_2 => ?_) (fun c_2 => ?_)
  · skip
    refine lv_iload_n hx hb dMd_padded_15 rfl (lv_at hl 3 rfl) ?_
    refine lv_iload_n hx hb dMd_padded_16 rfl (lv_at hl 2 rfl) ?_
    refine ri_ne (tgt := 24) hx hb dMd_padded_17 (by decide) (by omega) (by omega) (fun c_17 => ?_) (fun c_17 => ?_)
    · skip
      refine lv_iload_n hx hb dMd_padded_24 rfl (lv_at hl 3 rfl) ?_
      refine lv_iload hx hb dMd_padded_25 (lv_at hl 4 rfl) ?_
      refine lv_bipush (v := nI 8) hx hb dMd_padded_27 (by decide) ?_
      refine ri_sub hx hb (by omega) dMd_padded_29 ?_
      refine ri_ge (tgt := 37) hx hb dMd_padded_30 (by decide) (by omega) (by omega) (fun c_30 => ?_) (fun c_30 => ?_)
      · skip
        refine lv_ldc2 (v := 8) hx hb hown (hts _ gm_611) dMd_padded_37 ?_
        refine lv_iload_n hx hb dMd_padded_40 rfl (lv_at hl 2 rfl) ?_
        refine lv_i2l (v := (nI n).toInt64) hx hb dMd_padded_41 rfl ?_
        refine lv_lmul hx hb dMd_padded_42 ?_
        refine lv_bipush (v := nI 8) hx hb dMd_padded_43 (by decide) ?_
        refine lv_iload hx hb dMd_padded_45 (lv_at hl 4 rfl) ?_
        refine lv_iconst (v := nI 1) hx hb dMd_padded_47 (by decide) ?_
        refine ri_sub hx hb (by omega) dMd_padded_48 ?_
        refine lv_iload_n hx hb dMd_padded_49 rfl (lv_at hl 3 rfl) ?_
        refine ri_sub hx hb (by omega) dMd_padded_50 ?_
        refine ri_mul hx hb dMd_padded_51 ?_
        refine lv_lushr (v := lu (8 * ((nI n).toInt64)) (nI (8 * ((al - 1) - i)))) hx hb dMd_padded_52 rfl ?_
        refine lv_l2i (v := (lu (8 * ((nI n).toInt64)) (nI (8 * ((al - 1) - i)))).toInt32) hx hb dMd_padded_53 rfl ?_
        refine lv_sipush (v := 255) hx hb dMd_padded_54 (by decide) ?_
        refine lv_iand hx hb dMd_padded_57 ?_
        refine W.widen (k := 0) (n := 0) (Nat.le_refl _) (Nat.le_refl _) ?_
        exact W.iret (v := ((lu (8 * ((nI n).toInt64)) (nI (8 * ((al - 1) - i)))).toInt32) &&& 255) hx hb hr (fun t ht hW => ⟨⟨((lu (8 * ((nI n).toInt64)) (nI (8 * ((al - 1) - i)))).toInt32) &&& 255, (), rfl, (by unfold qPd; (repeat' split) <;> first | rfl | omega), by rw [ht]; exact hP, hD⟩, hS.F ht⟩) hS.2.2 dMd_padded_58
      · skip
        refine lv_iconst (v := nI 0) hx hb dMd_padded_33 (by decide) ?_
        refine lv_goto (tgt := 58) hx hb dMd_padded_34 (by decide) ?_
        refine W.widen (k := 0) (n := 0) (Nat.le_refl _) (Nat.le_refl _) ?_
        exact W.iret (v := nI 0) hx hb hr (fun t ht hW => ⟨⟨nI 0, (), rfl, (by unfold qPd; (repeat' split) <;> first | rfl | omega), by rw [ht]; exact hP, hD⟩, hS.F ht⟩) hS.2.2 dMd_padded_58
    · skip
      refine lv_sipush (v := nI 128) hx hb dMd_padded_20 (by decide) ?_
      refine W.widen (k := 0) (n := 0) (Nat.le_refl _) (Nat.le_refl _) ?_
      exact W.iret (v := nI 128) hx hb hr (fun t ht hW => ⟨⟨nI 128, (), rfl, (by unfold qPd; (repeat' split) <;> first | rfl | omega), by rw [ht]; exact hP, hD⟩, hS.F ht⟩) hS.2.2 dMd_padded_23
  · skip
    refine lv_aload_n hx hb dMd_padded_5 rfl (lv_at hl 0 rfl) ?_
    refine lv_iload_n hx hb dMd_padded_6 rfl (lv_at hl 1 rfl) ?_
    refine lv_iload_n hx hb dMd_padded_7 rfl (lv_at hl 3 rfl) ?_
    refine ri_add hx hb dMd_padded_8 ?_
    refine rb_ld hx hb hK hP 0 0 rfl rfl (by omega) (by omega) dMd_padded_9 ?_
    refine lv_sipush (v := 255) hx hb dMd_padded_10 (by decide) ?_
    refine lv_iand hx hb dMd_padded_13 ?_
    refine W.widen (k := 0) (n := 0) (Nat.le_refl _) (Nat.le_refl _) ?_
    exact W.iret (v := ((f (fo + i)).toInt32) &&& 255) hx hb hr (fun t ht hW => ⟨⟨((f (fo + i)).toInt32) &&& 255, (), rfl, (by unfold qPd; (repeat' split) <;> first | rfl | omega), by rw [ht]; exact hP, hD⟩, hS.F ht⟩) hS.2.2 dMd_padded_14
