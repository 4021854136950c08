set_option maxHeartbeats 600000 in
set_option maxRecDepth 100000 in
theorem c_W_goOver (l : Launch) (D : va_G) (k : Nat → ClassId) (tb : Nat → Nat) (sz : Nat) (h a1 a2 a3 ts nh fl : Nat) (tot : Int64) (bc : Int32) (S : Nat → Int64) (b : Nat → Int8) (f : Nat → Int64) : Met l ySh_goOverBlock wSh_goOverBlock ({ frames := 2, cells := 0, slots := 0, locals := 62 }) (cP D k tb [(h, .inr (3, [.ref a1, .ref a2, .int (nI nh), .ref ts, .int (nI 8), .int (nI fl), .long tot, .int bc, .ref a3])), (a1, .inl (k 2, 8, .inr (.inl S))), (a2, .inl (k 0, 128, .inl (by_ b))), (a3, .inl (k 2, 80, .inr (.inl f)))] sz [.ref h]) (va_Qv (fun (u : Nat → Int64) => True) (fun (u : Nat → Int64) (t : State) => va_P D vwCl [(h, .inr (3, [.ref a1, .ref a2, .int (nI nh), .ref ts, .int (nI 8), .int (nI 0), .long tot, .int (bc + 1), .ref a3])), (a1, .inl (k 2, 8, .inr (.inl (cmpW S b)))), (a2, .inl (k 0, 128, .inl (by_ b))), (a3, .inl (k 2, 80, .inr (.inl u)))] t.heap ∧ va_D (va_A [(h, .inr (3, [.ref a1, .ref a2, .int (nI nh), .ref ts, .int (nI 8), .int (nI fl), .long tot, .int bc, .ref a3])), (a1, .inl (k 2, 8, .inr (.inl S))), (a2, .inl (k 0, 128, .inl (by_ b))), (a3, .inl (k 2, 80, .inr (.inl f)))] sz) [(h, .inr (3, [.ref a1, .ref a2, .int (nI nh), .ref ts, .int (nI 8), .int (nI 0), .long tot, .int (bc + 1), .ref a3])), (a1, .inl (k 2, 8, .inr (.inl (cmpW S b)))), (a2, .inl (k 0, 128, .inl (by_ b))), (a3, .inl (k 2, 80, .inr (.inl u)))]) (va_A [(h, .inr (3, [.ref a1, .ref a2, .int (nI nh), .ref ts, .int (nI 8), .int (nI fl), .long tot, .int bc, .ref a3])), (a1, .inl (k 2, 8, .inr (.inl S))), (a2, .inl (k 0, 128, .inl (by_ b))), (a3, .inl (k 2, 80, .inr (.inl f)))] sz)) (0) (0) (va_A [(h, .inr (3, [.ref a1, .ref a2, .int (nI nh), .ref ts, .int (nI 8), .int (nI fl), .long tot, .int bc, .ref a3])), (a1, .inl (k 2, 8, .inr (.inl S))), (a2, .inl (k 0, 128, .inl (by_ b))), (a3, .inl (k 2, 80, .inr (.inl f)))] sz) := by
  refine Met.ofW (cc := cSh_goOverBlock) (maxL := 1) (ret := none) (by decide) rfl ?_
  intro p e s m args below meth c s₁ B hml hv
  obtain ⟨rfl, hsz, hP, hK, hD0, hG⟩ := hv
  have hx := B.exec
  have hb := B.bytes
  have hr := B.returns
  have hts : ∀ w ∈ GT, w.before _ s = true := fun w h => atoms_spec (ws := wSh_goOverBlock) B.pre w (List.mem_cons_of_mem _ h)
  have hown : s.vm.findClass R_Sh = some m.cls := findClass_of_methodNamed B.named
  have hlocks := B.notSynchronized
  subst hsz
  have hD := hD0.self (sz := s.heap.size)
  generalize hAe : va_A [(h, .inr (3, [.ref a1, .ref a2, .int (nI nh), .ref ts, .int (nI 8), .int (nI fl), .long tot, .int bc, .ref a3])), (a1, .inl (k 2, 8, .inr (.inl S))), (a2, .inl (k 0, 128, .inl (by_ b))), (a3, .inl (k 2, 80, .inr (.inl f)))] s.heap.size = A at hD hG ⊢
  have hA : ∀ q : Nat, s.heap.size ≤ q → A q := fun q h => by rw [← hAe]; exact Or.inr h
  have hl := lv_entry ([.ref h]) (n := 1) (Nat.le_of_ble_eq_true rfl)
  rw [lg_entry_eq]
  generalize (lg_sl ([.ref h]) ++ List.replicate (1 - (lg_sl ([.ref h])).length) Slot.unset).toArray = ls at hl ⊢
  have hl : lv_has ls 1 [(0, .ref h)] := hl
  refine cw_start (A := A) hP (fun H locs hP hS => ?_)
  refine lv_aload_n hx hb dSh_goOverBlock_0 rfl (lv_at hl 0 rfl) ?_
  refine rc_v (wr := []) (va_runU (As := []) (rest := []) ⟨hx, hb, hml, hown, hts⟩ (c_Ws_fillSchedule l D k tb H.size h a1 a2 a3 ts nh fl tot bc S b f) (va_cwA 0 hts (gU gm_338 gm_339 gm_349 gm_350 gm_55 gm_351) rfl rfl rfl (hG.1 _ gn_19) (by decide +kernel) ⟨Nat.le_of_ble_eq_true rfl, Nat.le_of_ble_eq_true rfl⟩) (cP_V hP hD hK hG hS hA [0, 1, 2, 3] (by decide) rfl (ci := 3) (q0 := 0) rfl rfl) rfl rfl hl.1 rfl (lv_room (Nat.le_of_ble_eq_true rfl)) dSh_goOverBlock_1 ⟨Nat.le_of_ble_eq_true rfl, Nat.le_of_ble_eq_true rfl⟩) hS hA hP hD [0, 1, 2, 3] [] rfl rfl (by decide) (by decide) (fun u H locs hw hP hD hS => ?_)
  have hP : va_P D vwCl [(h, .inr (3, [.ref a1, .ref a2, .int (nI nh), .ref ts, .int (nI 8), .int (nI fl), .long tot, .int bc, .ref a3])), (a1, .inl (k 2, 8, .inr (.inl S))), (a2, .inl (k 0, 128, .inl (by_ b))), (a3, .inl (k 2, 80, .inr (.inl (wSched f b))))] H := hP
  have hD : va_D A [(h, .inr (3, [.ref a1, .ref a2, .int (nI nh), .ref ts, .int (nI 8), .int (nI fl), .long tot, .int bc, .ref a3])), (a1, .inl (k 2, 8, .inr (.inl S))), (a2, .inl (k 0, 128, .inl (by_ b))), (a3, .inl (k 2, 80, .inr (.inl (wSched f b))))] := hD
  refine lv_aload_n hx hb dSh_goOverBlock_4 rfl (lv_at hl 0 rfl) ?_
  refine rc_v (wr := []) (va_runU (As := []) (rest := []) ⟨hx, hb, hml, hown, hts⟩ (c_Ws_mixSchedule l D k tb H.size h a1 a2 a3 ts nh fl tot bc S b (wSched f b)) (va_cwA 0 hts (gU gm_358 gm_359 gm_370 gm_371 gm_55 gm_372) rfl rfl rfl (hG.1 _ gn_20) (by decide +kernel) ⟨Nat.le_of_ble_eq_true rfl, Nat.le_of_ble_eq_true rfl⟩) (cP_V hP hD hK hG hS hA [0, 1, 2, 3] (by decide) rfl (ci := 3) (q0 := 0) rfl rfl) rfl rfl hl.1 rfl (lv_room (Nat.le_of_ble_eq_true rfl)) dSh_goOverBlock_5 ⟨Nat.le_of_ble_eq_true rfl, Nat.le_of_ble_eq_true rfl⟩) hS hA hP hD [0, 1, 2, 3] [] rfl rfl (by decide) (by decide) (fun u H locs hw hP hD hS => ?_)
  have hP : va_P D vwCl [(h, .inr (3, [.ref a1, .ref a2, .int (nI nh), .ref ts, .int (nI 8), .int (nI fl), .long tot, .int bc, .ref a3])), (a1, .inl (k 2, 8, .inr (.inl (add8 S ((wMx kW (wSched f b) (wOf S) 80)))))), (a2, .inl (k 0, 128, .inl (by_ b))), (a3, .inl (k 2, 80, .inr (.inl (wSched f b))))] H := hP
  have hD : va_D A [(h, .inr (3, [.ref a1, .ref a2, .int (nI nh), .ref ts, .int (nI 8), .int (nI fl), .long tot, .int bc, .ref a3])), (a1, .inl (k 2, 8, .inr (.inl (add8 S ((wMx kW (wSched f b) (wOf S) 80)))))), (a2, .inl (k 0, 128, .inl (by_ b))), (a3, .inl (k 2, 80, .inr (.inl (wSched f b))))] := hD
  refine lv_aload_n hx hb dSh_goOverBlock_8 rfl (lv_at hl 0 rfl) ?_
  refine lv_dup hx hb dSh_goOverBlock_9 rfl ?_
  refine va_get (D := D) (ci := 3) (v := .int bc) (C := R_Ws) (T := T_Ws) (N := 9) hx hb hts in_Ws hown hK hP 0 rfl rfl 7 (by decide) (hts _ gm_119) (fun _ h9 => h9) rfl dSh_goOverBlock_10 ?_
  refine lv_iconst (v := 1) hx hb dSh_goOverBlock_13 (by decide) ?_
  refine lv_iadd hx hb dSh_goOverBlock_14 ?_
  refine va_put (D := D) (ci := 3) (v := .int (bc + 1)) (ty := .int) (C := R_Ws) (T := T_Ws) (N := 9) hx hb hts in_Ws t_Ws tk_Ws nm_Ws hown hK hP hD hS 0 rfl rfl 7 (by decide) (hts _ gm_119) (fun _ h9 => h9) rfl (by decide +kernel) rfl rfl (Nat.le_of_ble_eq_true rfl) dSh_goOverBlock_15 (fun H locs hP hD hS => ?_)
  have hP : va_P D vwCl [(h, .inr (3, [.ref a1, .ref a2, .int (nI nh), .ref ts, .int (nI 8), .int (nI fl), .long tot, .int (bc + 1), .ref a3])), (a1, .inl (k 2, 8, .inr (.inl (add8 S ((wMx kW (wSched f b) (wOf S) 80)))))), (a2, .inl (k 0, 128, .inl (by_ b))), (a3, .inl (k 2, 80, .inr (.inl (wSched f b))))] H := hP
  have hD : va_D A [(h, .inr (3, [.ref a1, .ref a2, .int (nI nh), .ref ts, .int (nI 8), .int (nI fl), .long tot, .int (bc + 1), .ref a3])), (a1, .inl (k 2, 8, .inr (.inl (add8 S ((wMx kW (wSched f b) (wOf S) 80)))))), (a2, .inl (k 0, 128, .inl (by_ b))), (a3, .inl (k 2, 80, .inr (.inl (wSched f b))))] := hD
  refine lv_aload_n hx hb dSh_goOverBlock_18 rfl (lv_at hl 0 rfl) ?_
  refine lv_iconst (v := nI 0) hx hb dSh_goOverBlock_19 (by decide) ?_
  refine va_put (D := D) (ci := 3) (v := .int (nI 0)) (ty := .int) (C := R_Ws) (T := T_Ws) (N := 9) hx hb hts in_Ws t_Ws tk_Ws nm_Ws hown hK hP hD hS 0 rfl rfl 5 (by decide) (hts _ gm_117) (fun _ h9 => h9) rfl (by decide +kernel) rfl rfl (Nat.le_of_ble_eq_true rfl) dSh_goOverBlock_20 (fun H locs hP hD hS => ?_)
  have hP : va_P D vwCl [(h, .inr (3, [.ref a1, .ref a2, .int (nI nh), .ref ts, .int (nI 8), .int (nI 0), .long tot, .int (bc + 1), .ref a3])), (a1, .inl (k 2, 8, .inr (.inl (add8 S ((wMx kW (wSched f b) (wOf S) 80)))))), (a2, .inl (k 0, 128, .inl (by_ b))), (a3, .inl (k 2, 80, .inr (.inl (wSched f b))))] H := hP
  have hD : va_D A [(h, .inr (3, [.ref a1, .ref a2, .int (nI nh), .ref ts, .int (nI 8), .int (nI 0), .long tot, .int (bc + 1), .ref a3])), (a1, .inl (k 2, 8, .inr (.inl (add8 S ((wMx kW (wSched f b) (wOf S) 80)))))), (a2, .inl (k 0, 128, .inl (by_ b))), (a3, .inl (k 2, 80, .inr (.inl (wSched f b))))] := hD
  rw [cmpW_eq] at hP hD
  refine W.widen (k := 0) (n := 0) (Nat.le_refl _) (Nat.le_refl _) ?_
  exact W.vret hx hb hr (fun t ht hW => ⟨⟨wSched f b, rfl, trivial, by rw [ht]; exact hP, hD⟩, hS.F ht⟩) hS.2.2 dSh_goOverBlock_23
set_option maxHeartbeats 600000 in
set_option maxRecDepth 100000 in
theorem c_W_takeByte (l : Launch) (D : va_G) (k : Nat → ClassId) (tb : Nat → Nat) (sz : Nat) (h a1 a2 a3 ts nh fl : Nat) (tot : Int64) (bc : Int32) (S : Nat → Int64) (b : Nat → Int8) (f : Nat → Int64) (x : Int32) (hfl : fl < 128) : Met l ySh_takeByte wSh_takeByte ({ frames := 3, cells := 0, slots := 0, locals := 82 }) (cP D k tb [(h, .inr (3, [.ref a1, .ref a2, .int (nI nh), .ref ts, .int (nI 8), .int (nI fl), .long tot, .int bc, .ref a3])), (a1, .inl (k 2, 8, .inr (.inl S))), (a2, .inl (k 0, 128, .inl (by_ b))), (a3, .inl (k 2, 80, .inr (.inl f)))] sz [.ref h, .int x]) (va_Qv (fun (u : ShS × (Nat → Int64)) => u.1 = ab1 128 cmpW x.toInt8 (S, b, fl, bc)) (fun (u : ShS × (Nat → Int64)) (t : State) => va_P D vwCl [(h, .inr (3, [.ref a1, .ref a2, .int (nI nh), .ref ts, .int (nI 8), .int (nI (u.1.2.2.1)), .long (tot + 1), .int u.1.2.2.2, .ref a3])), (a1, .inl (k 2, 8, .inr (.inl u.1.1))), (a2, .inl (k 0, 128, .inl (by_ u.1.2.1))), (a3, .inl (k 2, 80, .inr (.inl u.2)))] t.heap ∧ va_D (va_A [(h, .inr (3, [.ref a1, .ref a2, .int (nI nh), .ref ts, .int (nI 8), .int (nI fl), .long tot, .int bc, .ref a3])), (a1, .inl (k 2, 8, .inr (.inl S))), (a2, .inl (k 0, 128, .inl (by_ b))), (a3, .inl (k 2, 80, .inr (.inl f)))] sz) [(h, .inr (3, [.ref a1, .ref a2, .int (nI nh), .ref ts, .int (nI 8), .int (nI (u.1.2.2.1)), .long (tot + 1), .int u.1.2.2.2, .ref a3])), (a1, .inl (k 2, 8, .inr (.inl u.1.1))), (a2, .inl (k 0, 128, .inl (by_ u.1.2.1))), (a3, .inl (k 2, 80, .inr (.inl u.2)))]) (va_A [(h, .inr (3, [.ref a1, .ref a2, .int (nI nh), .ref ts, .int (nI 8), .int (nI fl), .long tot, .int bc, .ref a3])), (a1, .inl (k 2, 8, .inr (.inl S))), (a2, .inl (k 0, 128, .inl (by_ b))), (a3, .inl (k 2, 80, .inr (.inl f)))] sz)) (0) (0) (va_A [(h, .inr (3, [.ref a1, .ref a2, .int (nI nh), .ref ts, .int (nI 8), .int (nI fl), .long tot, .int bc, .ref a3])), (a1, .inl (k 2, 8, .inr (.inl S))), (a2, .inl (k 0, 128, .inl (by_ b))), (a3, .inl (k 2, 80, .inr (.inl f)))] sz) := by
  refine Met.ofW (cc := cSh_takeByte) (maxL := 2) (ret := none) (by decide) rfl ?_
  intro p e s m args below meth c s₁ B hml hv
  obtain ⟨rfl, hsz, hP, hK, hD0, hG⟩ := hv
  have hx := B.exec
  have hb := B.bytes
  have hr := B.returns
  have hts : ∀ w ∈ GT, w.before _ s = true := fun w h => atoms_spec (ws := wSh_takeByte) B.pre w (List.mem_cons_of_mem _ h)
  have hown : s.vm.findClass R_Sh = some m.cls := findClass_of_methodNamed B.named
  have hlocks := B.notSynchronized
  subst hsz
  have hD := hD0.self (sz := s.heap.size)
  generalize hAe : va_A [(h, .inr (3, [.ref a1, .ref a2, .int (nI nh), .ref ts, .int (nI 8), .int (nI fl), .long tot, .int bc, .ref a3])), (a1, .inl (k 2, 8, .inr (.inl S))), (a2, .inl (k 0, 128, .inl (by_ b))), (a3, .inl (k 2, 80, .inr (.inl f)))] s.heap.size = A at hD hG ⊢
  have hA : ∀ q : Nat, s.heap.size ≤ q → A q := fun q h => by rw [← hAe]; exact Or.inr h
  have hl := lv_entry ([.ref h, .int x]) (n := 2) (Nat.le_of_ble_eq_true rfl)
  rw [lg_entry_eq]
  generalize (lg_sl ([.ref h, .int x]) ++ List.replicate (2 - (lg_sl ([.ref h, .int x])).length) Slot.unset).toArray = ls at hl ⊢
  have hl : lv_has ls 2 [(0, .ref h), (1, .int x)] := hl
  refine cw_start (A := A) hP (fun H locs hP hS => ?_)
  refine lv_aload_n hx hb dSh_takeByte_0 rfl (lv_at hl 0 rfl) ?_
  refine va_get (D := D) (ci := 3) (v := .ref a2) (C := R_Ws) (T := T_Ws) (N := 9) hx hb hts in_Ws hown hK hP 0 rfl rfl 1 (by decide) (hts _ gm_107) (fun _ h9 => h9) rfl dSh_takeByte_1 ?_
  refine lv_aload_n hx hb dSh_takeByte_4 rfl (lv_at hl 0 rfl) ?_
  refine va_get (D := D) (ci := 3) (v := .int (nI fl)) (C := R_Ws) (T := T_Ws) (N := 9) hx hb hts in_Ws hown hK hP 0 rfl rfl 5 (by decide) (hts _ gm_117) (fun _ h9 => h9) rfl dSh_takeByte_5 ?_
  refine lv_iload_n hx hb dSh_takeByte_8 rfl (lv_at hl 1 rfl) ?_
  refine lv_i2b (v := x.toInt8.toInt32) hx hb dSh_takeByte_9 rfl ?_
  refine rb_st (z := x.toInt8) hx hb hK hP hD hS 2 0 rfl rfl (by omega) (by omega) dSh_takeByte_10 (fun H locs hP hD hS => ?_)
  have hP : va_P D vwCl [(h, .inr (3, [.ref a1, .ref a2, .int (nI nh), .ref ts, .int (nI 8), .int (nI fl), .long tot, .int bc, .ref a3])), (a1, .inl (k 2, 8, .inr (.inl S))), (a2, .inl (k 0, 128, .inl (by_ (va_up b fl x.toInt8)))), (a3, .inl (k 2, 80, .inr (.inl f)))] H := hP
  have hD : va_D A [(h, .inr (3, [.ref a1, .ref a2, .int (nI nh), .ref ts, .int (nI 8), .int (nI fl), .long tot, .int bc, .ref a3])), (a1, .inl (k 2, 8, .inr (.inl S))), (a2, .inl (k 0, 128, .inl (by_ (va_up b fl x.toInt8)))), (a3, .inl (k 2, 80, .inr (.inl f)))] := hD
  refine lv_aload_n hx hb dSh_takeByte_11 rfl (lv_at hl 0 rfl) ?_
  refine lv_dup hx hb dSh_takeByte_12 rfl ?_
  refine va_get (D := D) (ci := 3) (v := .int (nI fl)) (C := R_Ws) (T := T_Ws) (N := 9) hx hb hts in_Ws hown hK hP 0 rfl rfl 5 (by decide) (hts _ gm_117) (fun _ h9 => h9) rfl dSh_takeByte_13 ?_
  refine lv_iconst (v := nI 1) hx hb dSh_takeByte_16 (by decide) ?_
  refine ri_add hx hb dSh_takeByte_17 ?_
  refine va_put (D := D) (ci := 3) (v := .int (nI (fl + 1))) (ty := .int) (C := R_Ws) (T := T_Ws) (N := 9) hx hb hts in_Ws t_Ws tk_Ws nm_Ws hown hK hP hD hS 0 rfl rfl 5 (by decide) (hts _ gm_117) (fun _ h9 => h9) rfl (by decide +kernel) rfl rfl (Nat.le_of_ble_eq_true rfl) dSh_takeByte_18 (fun H locs hP hD hS => ?_)
  have hP : va_P D vwCl [(h, .inr (3, [.ref a1, .ref a2, .int (nI nh), .ref ts, .int (nI 8), .int (nI (fl + 1)), .long tot, .int bc, .ref a3])), (a1, .inl (k 2, 8, .inr (.inl S))), (a2, .inl (k 0, 128, .inl (by_ (va_up b fl x.toInt8)))), (a3, .inl (k 2, 80, .inr (.inl f)))] H := hP
  have hD : va_D A [(h, .inr (3, [.ref a1, .ref a2, .int (nI nh), .ref ts, .int (nI 8), .int (nI (fl + 1)), .long tot, .int bc, .ref a3])), (a1, .inl (k 2, 8, .inr (.inl S))), (a2, .inl (k 0, 128, .inl (by_ (va_up b fl x.toInt8)))), (a3, .inl (k 2, 80, .inr (.inl f)))] := hD
  refine lv_aload_n hx hb dSh_takeByte_21 rfl (lv_at hl 0 rfl) ?_
  refine va_get (D := D) (ci := 3) (v := .int (nI (fl + 1))) (C := R_Ws) (T := T_Ws) (N := 9) hx hb hts in_Ws hown hK hP 0 rfl rfl 5 (by decide) (hts _ gm_117) (fun _ h9 => h9) rfl dSh_takeByte_22 ?_
  refine lv_aload_n hx hb dSh_takeByte_25 rfl (lv_at hl 0 rfl) ?_
  refine va_get (D := D) (ci := 3) (v := .ref a2) (C := R_Ws) (T := T_Ws) (N := 9) hx hb hts in_Ws hown hK hP 0 rfl rfl 1 (by decide) (hts _ gm_107) (fun _ h9 => h9) rfl dSh_takeByte_26 ?_
  refine ra_len hx hb hK hP 2 0 rfl rfl dSh_takeByte_29 ?_
  refine ri_ne (tgt := 37) hx hb dSh_takeByte_30 (by decide) (by omega) (by omega) (fun c_30 => ?_) (fun c_30 => ?_)
  · skip
    refine lv_aload_n hx hb dSh_takeByte_37 rfl (lv_at hl 0 rfl) ?_
    refine lv_dup hx hb dSh_takeByte_38 rfl ?_
    refine va_get (D := D) (ci := 3) (v := .long tot) (C := R_Ws) (T := T_Ws) (N := 9) hx hb hts in_Ws hown hK hP 0 rfl rfl 6 (by decide) (hts _ gm_118) (fun _ h9 => h9) rfl dSh_takeByte_39 ?_
    refine lv_lconst (v := 1) hx hb dSh_takeByte_42 (by decide) ?_
    refine lv_ladd hx hb dSh_takeByte_43 ?_
    refine va_put (D := D) (ci := 3) (v := .long (tot + 1)) (ty := .long) (C := R_Ws) (T := T_Ws) (N := 9) hx hb hts in_Ws t_Ws tk_Ws nm_Ws hown hK hP hD hS 0 rfl rfl 6 (by decide) (hts _ gm_118) (fun _ h9 => h9) rfl (by decide +kernel) rfl rfl (Nat.le_of_ble_eq_true rfl) dSh_takeByte_44 (fun H locs hP hD hS => ?_)
    have hP : va_P D vwCl [(h, .inr (3, [.ref a1, .ref a2, .int (nI nh), .ref ts, .int (nI 8), .int (nI (fl + 1)), .long (tot + 1), .int bc, .ref a3])), (a1, .inl (k 2, 8, .inr (.inl S))), (a2, .inl (k 0, 128, .inl (by_ (va_up b fl x.toInt8)))), (a3, .inl (k 2, 80, .inr (.inl f)))] H := hP
    have hD : va_D A [(h, .inr (3, [.ref a1, .ref a2, .int (nI nh), .ref ts, .int (nI 8), .int (nI (fl + 1)), .long (tot + 1), .int bc, .ref a3])), (a1, .inl (k 2, 8, .inr (.inl S))), (a2, .inl (k 0, 128, .inl (by_ (va_up b fl x.toInt8)))), (a3, .inl (k 2, 80, .inr (.inl f)))] := hD
    refine W.widen (k := 0) (n := 0) (Nat.le_refl _) (Nat.le_refl _) ?_
    exact W.vret hx hb hr (fun t ht hW => ⟨⟨((S, va_up b fl x.toInt8, fl + 1, bc), f), rfl, (ab1_lt c_30).symm, by rw [ht]; exact hP, hD⟩, hS.F ht⟩) hS.2.2 dSh_takeByte_47
  · skip
    refine lv_aload_n hx hb dSh_takeByte_33 rfl (lv_at hl 0 rfl) ?_
    refine rc_v (wr := []) (va_runU (As := []) (rest := []) ⟨hx, hb, hml, hown, hts⟩ (c_W_goOver l D k tb H.size h a1 a2 a3 ts nh (fl + 1) tot bc S (va_up b fl x.toInt8) f) (va_cwU 0 hts (gU gm_335 gm_672 gm_13 gm_336 gm_52 gm_337) rfl rfl rfl rfl (by decide +kernel) ⟨Nat.le_of_ble_eq_true rfl, Nat.le_of_ble_eq_true rfl⟩) (cP_V hP hD hK hG hS hA [0, 1, 2, 3] (by decide) rfl (ci := 3) (q0 := 0) rfl rfl) rfl rfl hl.1 rfl (lv_room (Nat.le_of_ble_eq_true rfl)) dSh_takeByte_34 ⟨Nat.le_of_ble_eq_true rfl, Nat.le_of_ble_eq_true rfl⟩) hS hA hP hD [0, 1, 2, 3] [] rfl rfl (by decide) (by decide) (fun f1 H locs hw hP hD hS => ?_)
    have hP : va_P D vwCl [(h, .inr (3, [.ref a1, .ref a2, .int (nI nh), .ref ts, .int (nI 8), .int (nI 0), .long tot, .int (bc + 1), .ref a3])), (a1, .inl (k 2, 8, .inr (.inl (cmpW S (va_up b fl x.toInt8))))), (a2, .inl (k 0, 128, .inl (by_ (va_up b fl x.toInt8)))), (a3, .inl (k 2, 80, .inr (.inl f1)))] H := hP
    have hD : va_D A [(h, .inr (3, [.ref a1, .ref a2, .int (nI nh), .ref ts, .int (nI 8), .int (nI 0), .long tot, .int (bc + 1), .ref a3])), (a1, .inl (k 2, 8, .inr (.inl (cmpW S (va_up b fl x.toInt8))))), (a2, .inl (k 0, 128, .inl (by_ (va_up b fl x.toInt8)))), (a3, .inl (k 2, 80, .inr (.inl f1)))] := hD
    refine lv_aload_n hx hb dSh_takeByte_37 rfl (lv_at hl 0 rfl) ?_
    refine lv_dup hx hb dSh_takeByte_38 rfl ?_
    refine va_get (D := D) (ci := 3) (v := .long tot) (C := R_Ws) (T := T_Ws) (N := 9) hx hb hts in_Ws hown hK hP 0 rfl rfl 6 (by decide) (hts _ gm_118) (fun _ h9 => h9) rfl dSh_takeByte_39 ?_
    refine lv_lconst (v := 1) hx hb dSh_takeByte_42 (by decide) ?_
    refine lv_ladd hx hb dSh_takeByte_43 ?_
    refine va_put (D := D) (ci := 3) (v := .long (tot + 1)) (ty := .long) (C := R_Ws) (T := T_Ws) (N := 9) hx hb hts in_Ws t_Ws tk_Ws nm_Ws hown hK hP hD hS 0 rfl rfl 6 (by decide) (hts _ gm_118) (fun _ h9 => h9) rfl (by decide +kernel) rfl rfl (Nat.le_of_ble_eq_true rfl) dSh_takeByte_44 (fun H locs hP hD hS => ?_)
    have hP : va_P D vwCl [(h, .inr (3, [.ref a1, .ref a2, .int (nI nh), .ref ts, .int (nI 8), .int (nI 0), .long (tot + 1), .int (bc + 1), .ref a3])), (a1, .inl (k 2, 8, .inr (.inl (cmpW S (va_up b fl x.toInt8))))), (a2, .inl (k 0, 128, .inl (by_ (va_up b fl x.toInt8)))), (a3, .inl (k 2, 80, .inr (.inl f1)))] H := hP
    have hD : va_D A [(h, .inr (3, [.ref a1, .ref a2, .int (nI nh), .ref ts, .int (nI 8), .int (nI 0), .long (tot + 1), .int (bc + 1), .ref a3])), (a1, .inl (k 2, 8, .inr (.inl (cmpW S (va_up b fl x.toInt8))))), (a2, .inl (k 0, 128, .inl (by_ (va_up b fl x.toInt8)))), (a3, .inl (k 2, 80, .inr (.inl f1)))] := hD
    refine W.widen (k := 0) (n := 0) (Nat.le_refl _) (Nat.le_refl _) ?_
    exact W.vret hx hb hr (fun t ht hW => ⟨⟨((cmpW S (va_up b fl x.toInt8), va_up b fl x.toInt8, 0, bc + 1), f1), rfl, (ab1_eq c_30).symm, by rw [ht]; exact hP, hD⟩, hS.F ht⟩) hS.2.2 dSh_takeByte_47
set_option maxHeartbeats 600000 in
set_option maxRecDepth 100000 in
theorem c_W_take (l : Launch) (D : va_G) (k : Nat → ClassId) (tb : Nat → Nat) (sz : Nat) (h a1 a2 a3 ts nh fl : Nat) (tot : Int64) (bc : Int32) (S : Nat → Int64) (b : Nat → Int8) (f : Nat → Int64) (fr n0 first many : Nat) (g : Nat → Int8) (hfl : fl < 128) (hs : first + many ≤ n0) (hn : n0 < 2 ^ 31) : Met l ySh_take wSh_take ({ frames := 3, cells := 0, slots := 0, locals := 82 }) (cP D k tb [(h, .inr (3, [.ref a1, .ref a2, .int (nI nh), .ref ts, .int (nI 8), .int (nI fl), .long tot, .int bc, .ref a3])), (a1, .inl (k 2, 8, .inr (.inl S))), (a2, .inl (k 0, 128, .inl (by_ b))), (a3, .inl (k 2, 80, .inr (.inl f))), (fr, .inl (k 0, n0, .inl (by_ g)))] sz [.ref h, .ref fr, .int (nI first), .int (nI many)]) (va_Qv (fun (u : ShS × (Nat → Int64)) => u.1 = abN 128 cmpW (fun j => g (first + j)) (S, b, fl, bc) many ∧ u.1.2.2.1 < 128) (fun (u : ShS × (Nat → Int64)) (t : State) => va_P D vwCl [(h, .inr (3, [.ref a1, .ref a2, .int (nI nh), .ref ts, .int (nI 8), .int (nI (u.1.2.2.1)), .long (tot + (nI many).toInt64), .int u.1.2.2.2, .ref a3])), (a1, .inl (k 2, 8, .inr (.inl u.1.1))), (a2, .inl (k 0, 128, .inl (by_ u.1.2.1))), (a3, .inl (k 2, 80, .inr (.inl u.2))), (fr, .inl (k 0, n0, .inl (by_ g)))] t.heap ∧ va_D (va_A [(h, .inr (3, [.ref a1, .ref a2, .int (nI nh), .ref ts, .int (nI 8), .int (nI fl), .long tot, .int bc, .ref a3])), (a1, .inl (k 2, 8, .inr (.inl S))), (a2, .inl (k 0, 128, .inl (by_ b))), (a3, .inl (k 2, 80, .inr (.inl f))), (fr, .inl (k 0, n0, .inl (by_ g)))] sz) [(h, .inr (3, [.ref a1, .ref a2, .int (nI nh), .ref ts, .int (nI 8), .int (nI (u.1.2.2.1)), .long (tot + (nI many).toInt64), .int u.1.2.2.2, .ref a3])), (a1, .inl (k 2, 8, .inr (.inl u.1.1))), (a2, .inl (k 0, 128, .inl (by_ u.1.2.1))), (a3, .inl (k 2, 80, .inr (.inl u.2))), (fr, .inl (k 0, n0, .inl (by_ g)))]) (va_A [(h, .inr (3, [.ref a1, .ref a2, .int (nI nh), .ref ts, .int (nI 8), .int (nI fl), .long tot, .int bc, .ref a3])), (a1, .inl (k 2, 8, .inr (.inl S))), (a2, .inl (k 0, 128, .inl (by_ b))), (a3, .inl (k 2, 80, .inr (.inl f))), (fr, .inl (k 0, n0, .inl (by_ g)))] sz)) (0) (0) (va_A [(h, .inr (3, [.ref a1, .ref a2, .int (nI nh), .ref ts, .int (nI 8), .int (nI fl), .long tot, .int bc, .ref a3])), (a1, .inl (k 2, 8, .inr (.inl S))), (a2, .inl (k 0, 128, .inl (by_ b))), (a3, .inl (k 2, 80, .inr (.inl f))), (fr, .inl (k 0, n0, .inl (by_ g)))] sz) := by
  refine Met.ofW (cc := cSh_take) (maxL := 5) (ret := none) (by decide) rfl ?_
  intro p e s m args below meth c s₁ B hml hv
  obtain ⟨rfl, hsz, hP, hK, hD0, hG⟩ := hv
  have hx := B.exec
  have hb := B.bytes
  have hr := B.returns
  have hts : ∀ w ∈ GT, w.before _ s = true := fun w h => atoms_spec (ws := wSh_take) B.pre w (List.mem_cons_of_mem _ h)
  have hown : s.vm.findClass R_Sh = some m.cls := findClass_of_methodNamed B.named
  have hlocks := B.notSynchronized
  subst hsz
  have hD := hD0.self (sz := s.heap.size)
  generalize hAe : va_A [(h, .inr (3, [.ref a1, .ref a2, .int (nI nh), .ref ts, .int (nI 8), .int (nI fl), .long tot, .int bc, .ref a3])), (a1, .inl (k 2, 8, .inr (.inl S))), (a2, .inl (k 0, 128, .inl (by_ b))), (a3, .inl (k 2, 80, .inr (.inl f))), (fr, .inl (k 0, n0, .inl (by_ g)))] s.heap.size = A at hD hG ⊢
  have hA : ∀ q : Nat, s.heap.size ≤ q → A q := fun q h => by rw [← hAe]; exact Or.inr h
  have hl := lv_entry ([.ref h, .ref fr, .int (nI first), .int (nI many)]) (n := 5) (Nat.le_of_ble_eq_true rfl)
  rw [lg_entry_eq]
  generalize (lg_sl ([.ref h, .ref fr, .int (nI first), .int (nI many)]) ++ List.replicate (5 - (lg_sl ([.ref h, .ref fr, .int (nI first), .int (nI many)])).length) Slot.unset).toArray = ls at hl ⊢
  have hl : lv_has ls 5 [(0, .ref h), (1, .ref fr), (2, .int (nI first)), (3, .int (nI many))] := hl
  refine cw_start (A := A) hP (fun H locs hP hS => ?_)
  refine lv_iconst (v := nI 0) hx hb dSh_take_0 (by decide) ?_
  refine lv_istore (lv' := [(4, .int (nI 0)), (0, .ref h), (1, .ref fr), (2, .int (nI first)), (3, .int (nI many))]) hx hb dSh_take_1 hl (by decide) rfl (fun ls hl => ?_)
  refine ri_loop (fun i H locs ls => ∃ (S1 : Nat → Int64) (b1 : Nat → Int8) (fl1 : Nat) (bc1 : Int32) (f1 : Nat → Int64), va_P D vwCl [(h, .inr (3, [.ref a1, .ref a2, .int (nI nh), .ref ts, .int (nI 8), .int (nI fl1), .long tot, .int bc1, .ref a3])), (a1, .inl (k 2, 8, .inr (.inl S1))), (a2, .inl (k 0, 128, .inl (by_ b1))), (a3, .inl (k 2, 80, .inr (.inl f1))), (fr, .inl (k 0, n0, .inl (by_ g)))] H ∧ va_D A [(h, .inr (3, [.ref a1, .ref a2, .int (nI nh), .ref ts, .int (nI 8), .int (nI fl1), .long tot, .int bc1, .ref a3])), (a1, .inl (k 2, 8, .inr (.inl S1))), (a2, .inl (k 0, 128, .inl (by_ b1))), (a3, .inl (k 2, 80, .inr (.inl f1))), (fr, .inl (k 0, n0, .inl (by_ g)))] ∧ va_S A s.heap H locs ∧ lv_has ls 5 [(4, .int (nI i)), (0, .ref h), (1, .ref fr), (2, .int (nI first)), (3, .int (nI many))] ∧ abN 128 cmpW (fun j => g (first + j)) (S, b, fl, bc) i = (S1, b1, fl1, bc1) ∧ fl1 < 128) many 0 ⟨S, b, fl, bc, f, hP, hD, hS, lv_sub hl [0, 1, 2, 3, 4] rfl, ⟨rfl, hfl⟩⟩ (by omega) (fun i H locs ls lt_i ⟨S1, b1, fl1, bc1, f1, hP, hD, hS, hl, ⟨hab, hf1⟩⟩ ih => ?_) (fun H locs ls ⟨S1, b1, fl1, bc1, f1, hP, hD, hS, hl, ⟨hab, hf1⟩⟩ => ?_)
  · skip
    refine lv_iload hx hb dSh_take_3 (lv_at hl 0 rfl) ?_
    refine lv_iload_n hx hb dSh_take_5 rfl (lv_at hl 4 rfl) ?_
    refine ri_ge (tgt := 56) hx hb dSh_take_6 (by decide) (by omega) (by omega) (fun c_6 => absurd c_6 (by omega)) (fun c_6 => ?_)
    refine lv_aload_n hx hb dSh_take_9 rfl (lv_at hl 1 rfl) ?_
    refine va_get (D := D) (ci := 3) (v := .ref a2) (C := R_Ws) (T := T_Ws) (N := 9) hx hb hts in_Ws hown hK hP 0 rfl rfl 1 (by decide) (hts _ gm_107) (fun _ h9 => h9) rfl dSh_take_10 ?_
    refine lv_aload_n hx hb dSh_take_13 rfl (lv_at hl 1 rfl) ?_
    refine va_get (D := D) (ci := 3) (v := .int (nI fl1)) (C := R_Ws) (T := T_Ws) (N := 9) hx hb hts in_Ws hown hK hP 0 rfl rfl 5 (by decide) (hts _ gm_117) (fun _ h9 => h9) rfl dSh_take_14 ?_
    refine lv_aload_n hx hb dSh_take_17 rfl (lv_at hl 2 rfl) ?_
    refine lv_iload_n hx hb dSh_take_18 rfl (lv_at hl 3 rfl) ?_
    refine lv_iload hx hb dSh_take_19 (lv_at hl 0 rfl) ?_
    refine ri_add hx hb dSh_take_21 ?_
    refine rb_ld hx hb hK hP 4 0 rfl rfl (by omega) (by omega) dSh_take_22 ?_
    refine rb_st (z := (g (first + i))) hx hb hK hP hD hS 2 0 rfl rfl (by omega) (by omega) dSh_take_23 (fun H locs hP hD hS => ?_)
    have hP : va_P D vwCl [(h, .inr (3, [.ref a1, .ref a2, .int (nI nh), .ref ts, .int (nI 8), .int (nI fl1), .long tot, .int bc1, .ref a3])), (a1, .inl (k 2, 8, .inr (.inl S1))), (a2, .inl (k 0, 128, .inl (by_ (va_up b1 fl1 (g (first + i)))))), (a3, .inl (k 2, 80, .inr (.inl f1))), (fr, .inl (k 0, n0, .inl (by_ g)))] H := hP
    have hD : va_D A [(h, .inr (3, [.ref a1, .ref a2, .int (nI nh), .ref ts, .int (nI 8), .int (nI fl1), .long tot, .int bc1, .ref a3])), (a1, .inl (k 2, 8, .inr (.inl S1))), (a2, .inl (k 0, 128, .inl (by_ (va_up b1 fl1 (g (first + i)))))), (a3, .inl (k 2, 80, .inr (.inl f1))), (fr, .inl (k 0, n0, .inl (by_ g)))] := hD
    refine lv_aload_n hx hb dSh_take_24 rfl (lv_at hl 1 rfl) ?_
    refine lv_dup hx hb dSh_take_25 rfl ?_
    refine va_get (D := D) (ci := 3) (v := .int (nI fl1)) (C := R_Ws) (T := T_Ws) (N := 9) hx hb hts in_Ws hown hK hP 0 rfl rfl 5 (by decide) (hts _ gm_117) (fun _ h9 => h9) rfl dSh_take_26 ?_
    refine lv_iconst (v := nI 1) hx hb dSh_take_29 (by decide) ?_
    refine ri_add hx hb dSh_take_30 ?_
    refine va_put (D := D) (ci := 3) (v := .int (nI (fl1 + 1))) (ty := .int) (C := R_Ws) (T := T_Ws) (N := 9) hx hb hts in_Ws t_Ws tk_Ws nm_Ws hown hK hP hD hS 0 rfl rfl 5 (by decide) (hts _ gm_117) (fun _ h9 => h9) rfl (by decide +kernel) rfl rfl (Nat.le_of_ble_eq_true rfl) dSh_take_31 (fun H locs hP hD hS => ?_)
    have hP : va_P D vwCl [(h, .inr (3, [.ref a1, .ref a2, .int (nI nh), .ref ts, .int (nI 8), .int (nI (fl1 + 1)), .long tot, .int bc1, .ref a3])), (a1, .inl (k 2, 8, .inr (.inl S1))), (a2, .inl (k 0, 128, .inl (by_ (va_up b1 fl1 (g (first + i)))))), (a3, .inl (k 2, 80, .inr (.inl f1))), (fr, .inl (k 0, n0, .inl (by_ g)))] H := hP
    have hD : va_D A [(h, .inr (3, [.ref a1, .ref a2, .int (nI nh), .ref ts, .int (nI 8), .int (nI (fl1 + 1)), .long tot, .int bc1, .ref a3])), (a1, .inl (k 2, 8, .inr (.inl S1))), (a2, .inl (k 0, 128, .inl (by_ (va_up b1 fl1 (g (first + i)))))), (a3, .inl (k 2, 80, .inr (.inl f1))), (fr, .inl (k 0, n0, .inl (by_ g)))] := hD
    refine lv_aload_n hx hb dSh_take_34 rfl (lv_at hl 1 rfl) ?_
    refine va_get (D := D) (ci := 3) (v := .int (nI (fl1 + 1))) (C := R_Ws) (T := T_Ws) (N := 9) hx hb hts in_Ws hown hK hP 0 rfl rfl 5 (by decide) (hts _ gm_117) (fun _ h9 => h9) rfl dSh_take_35 ?_
    refine lv_aload_n hx hb dSh_take_38 rfl (lv_at hl 1 rfl) ?_
    refine va_get (D := D) (ci := 3) (v := .ref a2) (C := R_Ws) (T := T_Ws) (N := 9) hx hb hts in_Ws hown hK hP 0 rfl rfl 1 (by decide) (hts _ gm_107) (fun _ h9 => h9) rfl dSh_take_39 ?_
    refine ra_len hx hb hK hP 2 0 rfl rfl dSh_take_42 ?_
    refine ri_ne (tgt := 50) hx hb dSh_take_43 (by decide) (by omega) (by omega) (fun c_43 => ?_) (fun c_43 => ?_)
    · skip
      refine ri_inc (lv' := [(4, .int (nI (i + 1))), (0, .ref h), (1, .ref fr), (2, .int (nI first)), (3, .int (nI many))]) (k := 0) (d := 1) hx hb dSh_take_50 hl rfl (by decide) (by decide) rfl (fun ls hl => ?_)
      refine lv_goto (tgt := 3) hx hb dSh_take_53 (by decide) ?_
      exact ih _ _ _ ⟨S1, va_up b1 fl1 (g (first + i)), fl1 + 1, bc1, f1, hP, hD, hS, lv_sub hl [0, 1, 2, 3, 4] rfl, ⟨(congrArg (ab1 128 cmpW (g (first + i))) hab).trans (ab1_lt c_43), by omega⟩⟩
    · skip
      refine lv_aload_n hx hb dSh_take_46 rfl (lv_at hl 1 rfl) ?_
      refine rc_v (wr := [(fr, .inl (k 0, n0, .inl (by_ g)))]) (va_runU (As := []) (rest := []) ⟨hx, hb, hml, hown, hts⟩ (c_W_goOver l D k tb H.size h a1 a2 a3 ts nh (fl1 + 1) tot bc1 S1 (va_up b1 fl1 (g (first + i))) f1) (va_cwU 0 hts (gU gm_335 gm_672 gm_13 gm_336 gm_52 gm_337) rfl rfl rfl rfl (by decide +kernel) ⟨Nat.le_of_ble_eq_true rfl, Nat.le_of_ble_eq_true rfl⟩) (cP_V hP hD hK hG hS hA [0, 1, 2, 3] (by decide) rfl (ci := 3) (q0 := 0) rfl rfl) rfl rfl hl.1 rfl (lv_room (Nat.le_of_ble_eq_true rfl)) dSh_take_47 ⟨Nat.le_of_ble_eq_true rfl, Nat.le_of_ble_eq_true rfl⟩) hS hA hP hD [0, 1, 2, 3] [4] rfl rfl (by decide) (by decide) (fun f2 H locs hw hP hD hS => ?_)
      have hP : va_P D vwCl [(fr, .inl (k 0, n0, .inl (by_ g))), (h, .inr (3, [.ref a1, .ref a2, .int (nI nh), .ref ts, .int (nI 8), .int (nI 0), .long tot, .int (bc1 + 1), .ref a3])), (a1, .inl (k 2, 8, .inr (.inl (cmpW S1 (va_up b1 fl1 (g (first + i))))))), (a2, .inl (k 0, 128, .inl (by_ (va_up b1 fl1 (g (first + i)))))), (a3, .inl (k 2, 80, .inr (.inl f2)))] H := hP
      have hD : va_D A [(fr, .inl (k 0, n0, .inl (by_ g))), (h, .inr (3, [.ref a1, .ref a2, .int (nI nh), .ref ts, .int (nI 8), .int (nI 0), .long tot, .int (bc1 + 1), .ref a3])), (a1, .inl (k 2, 8, .inr (.inl (cmpW S1 (va_up b1 fl1 (g (first + i))))))), (a2, .inl (k 0, 128, .inl (by_ (va_up b1 fl1 (g (first + i)))))), (a3, .inl (k 2, 80, .inr (.inl f2)))] := hD
      refine ri_inc (lv' := [(4, .int (nI (i + 1))), (0, .ref h), (1, .ref fr), (2, .int (nI first)), (3, .int (nI many))]) (k := 0) (d := 1) hx hb dSh_take_50 hl rfl (by decide) (by decide) rfl (fun ls hl => ?_)
      refine lv_goto (tgt := 3) hx hb dSh_take_53 (by decide) ?_
      exact ih _ _ _ ⟨cmpW S1 (va_up b1 fl1 (g (first + i))), va_up b1 fl1 (g (first + i)), 0, bc1 + 1, f2, hP.sub [1, 2, 3, 4, 0] rfl, hD.sub [1, 2, 3, 4, 0] (by decide) rfl, hS, lv_sub hl [0, 1, 2, 3, 4] rfl, ⟨(congrArg (ab1 128 cmpW (g (first + i))) hab).trans (ab1_eq c_43), by omega⟩⟩
  · skip
    refine lv_iload hx hb dSh_take_3 (lv_at hl 0 rfl) ?_
    refine lv_iload_n hx hb dSh_take_5 rfl (lv_at hl 4 rfl) ?_
    refine ri_ge (tgt := 56) hx hb dSh_take_6 (by decide) (by omega) (by omega) (fun c_6 => ?_) (fun c_6 => absurd c_6 (by omega))
    refine lv_aload_n hx hb dSh_take_56 rfl (lv_at hl 1 rfl) ?_
    refine lv_dup hx hb dSh_take_57 rfl ?_
    refine va_get (D := D) (ci := 3) (v := .long tot) (C := R_Ws) (T := T_Ws) (N := 9) hx hb hts in_Ws hown hK hP 0 rfl rfl 6 (by decide) (hts _ gm_118) (fun _ h9 => h9) rfl dSh_take_58 ?_
    refine lv_iload_n hx hb dSh_take_61 rfl (lv_at hl 4 rfl) ?_
    refine lv_i2l (v := (nI many).toInt64) hx hb dSh_take_62 rfl ?_
    refine lv_ladd hx hb dSh_take_63 ?_
    refine va_put (D := D) (ci := 3) (v := .long (tot + ((nI many).toInt64))) (ty := .long) (C := R_Ws) (T := T_Ws) (N := 9) hx hb hts in_Ws t_Ws tk_Ws nm_Ws hown hK hP hD hS 0 rfl rfl 6 (by decide) (hts _ gm_118) (fun _ h9 => h9) rfl (by decide +kernel) rfl rfl (Nat.le_of_ble_eq_true rfl) dSh_take_64 (fun H locs hP hD hS => ?_)
    have hP : va_P D vwCl [(h, .inr (3, [.ref a1, .ref a2, .int (nI nh), .ref ts, .int (nI 8), .int (nI fl1), .long (tot + ((nI many).toInt64)), .int bc1, .ref a3])), (a1, .inl (k 2, 8, .inr (.inl S1))), (a2, .inl (k 0, 128, .inl (by_ b1))), (a3, .inl (k 2, 80, .inr (.inl f1))), (fr, .inl (k 0, n0, .inl (by_ g)))] H := hP
    have hD : va_D A [(h, .inr (3, [.ref a1, .ref a2, .int (nI nh), .ref ts, .int (nI 8), .int (nI fl1), .long (tot + ((nI many).toInt64)), .int bc1, .ref a3])), (a1, .inl (k 2, 8, .inr (.inl S1))), (a2, .inl (k 0, 128, .inl (by_ b1))), (a3, .inl (k 2, 80, .inr (.inl f1))), (fr, .inl (k 0, n0, .inl (by_ g)))] := hD
    refine W.widen (k := 0) (n := 0) (Nat.le_refl _) (Nat.le_refl _) ?_
    exact W.vret hx hb hr (fun t ht hW => ⟨⟨((S1, b1, fl1, bc1), f1), rfl, ⟨hab.symm, hf1⟩, by rw [ht]; exact hP, hD⟩, hS.F ht⟩) hS.2.2 dSh_take_67
set_option maxHeartbeats 600000 in
set_option maxRecDepth 100000 in
theorem c_W_zeros (l : Launch) (D : va_G) (k : Nat → ClassId) (tb : Nat → Nat) (sz : Nat) (h a1 a2 a3 ts nh fl : Nat) (tot : Int64) (bc : Int32) (S : Nat → Int64) (b : Nat → Int8) (f : Nat → Int64) (hfl : fl ≤ 128) : Met l ySh_fillUpWithZeros wSh_fillUpWithZeros ({ frames := 2, cells := 0, slots := 0, locals := 46 }) (cP D k tb [(h, .inr (3, [.ref a1, .ref a2, .int (nI nh), .ref ts, .int (nI 8), .int (nI fl), .long tot, .int bc, .ref a3])), (a1, .inl (k 2, 8, .inr (.inl S))), (a2, .inl (k 0, 128, .inl (by_ b))), (a3, .inl (k 2, 80, .inr (.inl f)))] sz [.ref h]) (va_Qv (fun (u : Unit) => True) (fun (u : Unit) (t : State) => va_P D vwCl [(h, .inr (3, [.ref a1, .ref a2, .int (nI nh), .ref ts, .int (nI 8), .int (nI fl), .long tot, .int bc, .ref a3])), (a1, .inl (k 2, 8, .inr (.inl S))), (a2, .inl (k 0, 128, .inl (by_ (zf b fl 128)))), (a3, .inl (k 2, 80, .inr (.inl f)))] t.heap ∧ va_D (va_A [(h, .inr (3, [.ref a1, .ref a2, .int (nI nh), .ref ts, .int (nI 8), .int (nI fl), .long tot, .int bc, .ref a3])), (a1, .inl (k 2, 8, .inr (.inl S))), (a2, .inl (k 0, 128, .inl (by_ b))), (a3, .inl (k 2, 80, .inr (.inl f)))] sz) [(h, .inr (3, [.ref a1, .ref a2, .int (nI nh), .ref ts, .int (nI 8), .int (nI fl), .long tot, .int bc, .ref a3])), (a1, .inl (k 2, 8, .inr (.inl S))), (a2, .inl (k 0, 128, .inl (by_ (zf b fl 128)))), (a3, .inl (k 2, 80, .inr (.inl f)))]) (va_A [(h, .inr (3, [.ref a1, .ref a2, .int (nI nh), .ref ts, .int (nI 8), .int (nI fl), .long tot, .int bc, .ref a3])), (a1, .inl (k 2, 8, .inr (.inl S))), (a2, .inl (k 0, 128, .inl (by_ b))), (a3, .inl (k 2, 80, .inr (.inl f)))] sz)) (0) (0) (va_A [(h, .inr (3, [.ref a1, .ref a2, .int (nI nh), .ref ts, .int (nI 8), .int (nI fl), .long tot, .int bc, .ref a3])), (a1, .inl (k 2, 8, .inr (.inl S))), (a2, .inl (k 0, 128, .inl (by_ b))), (a3, .inl (k 2, 80, .inr (.inl f)))] sz) := by
  refine Met.ofW (cc := cSh_fillUpWithZeros) (maxL := 1) (ret := none) (by decide) rfl ?_
  intro p e s m args below meth c s₁ B hml hv
  obtain ⟨rfl, hsz, hP, hK, hD0, hG⟩ := hv
  have hx := B.exec
  have hb := B.bytes
  have hr := B.returns
  have hts : ∀ w ∈ GT, w.before _ s = true := fun w h => atoms_spec (ws := wSh_fillUpWithZeros) B.pre w (List.mem_cons_of_mem _ h)
  have hown : s.vm.findClass R_Sh = some m.cls := findClass_of_methodNamed B.named
  have hlocks := B.notSynchronized
  subst hsz
  have hD := hD0.self (sz := s.heap.size)
  generalize hAe : va_A [(h, .inr (3, [.ref a1, .ref a2, .int (nI nh), .ref ts, .int (nI 8), .int (nI fl), .long tot, .int bc, .ref a3])), (a1, .inl (k 2, 8, .inr (.inl S))), (a2, .inl (k 0, 128, .inl (by_ b))), (a3, .inl (k 2, 80, .inr (.inl f)))] s.heap.size = A at hD hG ⊢
  have hA : ∀ q : Nat, s.heap.size ≤ q → A q := fun q h => by rw [← hAe]; exact Or.inr h
  have hl := lv_entry ([.ref h]) (n := 1) (Nat.le_of_ble_eq_true rfl)
  rw [lg_entry_eq]
  generalize (lg_sl ([.ref h]) ++ List.replicate (1 - (lg_sl ([.ref h])).length) Slot.unset).toArray = ls at hl ⊢
  have hl : lv_has ls 1 [(0, .ref h)] := hl
  refine cw_start (A := A) hP (fun H locs hP hS => ?_)
  refine lv_aload_n hx hb dSh_fillUpWithZeros_0 rfl (lv_at hl 0 rfl) ?_
  refine va_get (D := D) (ci := 3) (v := .ref a2) (C := R_Ws) (T := T_Ws) (N := 9) hx hb hts in_Ws hown hK hP 0 rfl rfl 1 (by decide) (hts _ gm_107) (fun _ h9 => h9) rfl dSh_fillUpWithZeros_1 ?_
  refine lv_aload_n hx hb dSh_fillUpWithZeros_4 rfl (lv_at hl 0 rfl) ?_
  refine va_get (D := D) (ci := 3) (v := .int (nI fl)) (C := R_Ws) (T := T_Ws) (N := 9) hx hb hts in_Ws hown hK hP 0 rfl rfl 5 (by decide) (hts _ gm_117) (fun _ h9 => h9) rfl dSh_fillUpWithZeros_5 ?_
  refine lv_aload_n hx hb dSh_fillUpWithZeros_8 rfl (lv_at hl 0 rfl) ?_
  refine va_get (D := D) (ci := 3) (v := .ref a2) (C := R_Ws) (T := T_Ws) (N := 9) hx hb hts in_Ws hown hK hP 0 rfl rfl 1 (by decide) (hts _ gm_107) (fun _ h9 => h9) rfl dSh_fillUpWithZeros_9 ?_
  refine ra_len hx hb hK hP 2 0 rfl rfl dSh_fillUpWithZeros_12 ?_
  refine lv_iconst (v := (0 : Int8).toInt32) hx hb dSh_fillUpWithZeros_13 (by decide) ?_
  refine rc_v (wr := [(h, .inr (3, [.ref a1, .ref a2, .int (nI nh), .ref ts, .int (nI 8), .int (nI fl), .long tot, .int bc, .ref a3])), (a1, .inl (k 2, 8, .inr (.inl S))), (a3, .inl (k 2, 80, .inr (.inl f)))]) (va_runS (As := [.ref a2, .int (nI fl), .int (nI 128), .int ((0 : Int8).toInt32)]) (rest := []) ⟨hx, hb, hml, hown, hts⟩ (c_fill1 l D k tb H.size a2 128 fl 128 b 0 (by omega) (by omega) (by omega)) (va_cwS 4 hts (gS gm_398 gm_399 gm_63 gm_400) rfl rfl rfl (by decide +kernel) ⟨Nat.le_of_ble_eq_true rfl, Nat.le_of_ble_eq_true rfl⟩) (cP_S hP hD hK hG hS hA [2] (by decide) rfl) rfl rfl hl.1 rfl (lv_room (Nat.le_of_ble_eq_true rfl)) dSh_fillUpWithZeros_14 ⟨Nat.le_of_ble_eq_true rfl, Nat.le_of_ble_eq_true rfl⟩) hS hA hP hD [2] [0, 1, 3] rfl rfl (by decide) (by decide) (fun u H locs hw hP hD hS => ?_)
  have hP : va_P D vwCl [(h, .inr (3, [.ref a1, .ref a2, .int (nI nh), .ref ts, .int (nI 8), .int (nI fl), .long tot, .int bc, .ref a3])), (a1, .inl (k 2, 8, .inr (.inl S))), (a3, .inl (k 2, 80, .inr (.inl f))), (a2, .inl (k 0, 128, .inl (by_ (ff1 b 0 fl (128 - fl)))))] H := hP
  have hD : va_D A [(h, .inr (3, [.ref a1, .ref a2, .int (nI nh), .ref ts, .int (nI 8), .int (nI fl), .long tot, .int bc, .ref a3])), (a1, .inl (k 2, 8, .inr (.inl S))), (a3, .inl (k 2, 80, .inr (.inl f))), (a2, .inl (k 0, 128, .inl (by_ (ff1 b 0 fl (128 - fl)))))] := hD
  rw [ff1_zf b fl 128 (by omega)] at hP hD
  have hP := hP.sub (ws' := [(h, .inr (3, [.ref a1, .ref a2, .int (nI nh), .ref ts, .int (nI 8), .int (nI fl), .long tot, .int bc, .ref a3])), (a1, .inl (k 2, 8, .inr (.inl S))), (a2, .inl (k 0, 128, .inl (by_ (zf b fl 128)))), (a3, .inl (k 2, 80, .inr (.inl f)))]) [0, 1, 3, 2] rfl
  have hD := hD.sub (ws' := [(h, .inr (3, [.ref a1, .ref a2, .int (nI nh), .ref ts, .int (nI 8), .int (nI fl), .long tot, .int bc, .ref a3])), (a1, .inl (k 2, 8, .inr (.inl S))), (a2, .inl (k 0, 128, .inl (by_ (zf b fl 128)))), (a3, .inl (k 2, 80, .inr (.inl f)))]) [0, 1, 3, 2] (by decide) rfl
  refine W.widen (k := 0) (n := 0) (Nat.le_refl _) (Nat.le_refl _) ?_
  exact W.vret hx hb hr (fun t ht hW => ⟨⟨(), rfl, trivial, by rw [ht]; exact hP, hD⟩, hS.F ht⟩) hS.2.2 dSh_fillUpWithZeros_17
set_option maxHeartbeats 600000 in
set_option maxRecDepth 100000 in
theorem c_W_bits (l : Launch) (D : va_G) (k : Nat → ClassId) (tb : Nat → Nat) (sz : Nat) (h a1 a2 a3 ts nh fl : Nat) (tot : Int64) (bc : Int32) (S : Nat → Int64) (b : Nat → Int8) (f : Nat → Int64) : Met l ySh_writeLengthInBits wSh_writeLengthInBits ({ frames := 0, cells := 0, slots := 0, locals := 0 }) (cP D k tb [(h, .inr (3, [.ref a1, .ref a2, .int (nI nh), .ref ts, .int (nI 8), .int (nI fl), .long tot, .int bc, .ref a3])), (a1, .inl (k 2, 8, .inr (.inl S))), (a2, .inl (k 0, 128, .inl (by_ b))), (a3, .inl (k 2, 80, .inr (.inl f)))] sz [.ref h]) (va_Qv (fun (u : Unit) => True) (fun (u : Unit) (t : State) => va_P D vwCl [(h, .inr (3, [.ref a1, .ref a2, .int (nI nh), .ref ts, .int (nI 8), .int (nI fl), .long tot, .int bc, .ref a3])), (a1, .inl (k 2, 8, .inr (.inl S))), (a2, .inl (k 0, 128, .inl (by_ (lnB b 128 (8 * tot) 8)))), (a3, .inl (k 2, 80, .inr (.inl f)))] t.heap ∧ va_D (va_A [(h, .inr (3, [.ref a1, .ref a2, .int (nI nh), .ref ts, .int (nI 8), .int (nI fl), .long tot, .int bc, .ref a3])), (a1, .inl (k 2, 8, .inr (.inl S))), (a2, .inl (k 0, 128, .inl (by_ b))), (a3, .inl (k 2, 80, .inr (.inl f)))] sz) [(h, .inr (3, [.ref a1, .ref a2, .int (nI nh), .ref ts, .int (nI 8), .int (nI fl), .long tot, .int bc, .ref a3])), (a1, .inl (k 2, 8, .inr (.inl S))), (a2, .inl (k 0, 128, .inl (by_ (lnB b 128 (8 * tot) 8)))), (a3, .inl (k 2, 80, .inr (.inl f)))]) (va_A [(h, .inr (3, [.ref a1, .ref a2, .int (nI nh), .ref ts, .int (nI 8), .int (nI fl), .long tot, .int bc, .ref a3])), (a1, .inl (k 2, 8, .inr (.inl S))), (a2, .inl (k 0, 128, .inl (by_ b))), (a3, .inl (k 2, 80, .inr (.inl f)))] sz)) (0) (0) (va_A [(h, .inr (3, [.ref a1, .ref a2, .int (nI nh), .ref ts, .int (nI 8), .int (nI fl), .long tot, .int bc, .ref a3])), (a1, .inl (k 2, 8, .inr (.inl S))), (a2, .inl (k 0, 128, .inl (by_ b))), (a3, .inl (k 2, 80, .inr (.inl f)))] sz) := by
  refine Met.ofW (cc := cSh_writeLengthInBits) (maxL := 4) (ret := none) (by decide) rfl ?_
  intro p e s m args below meth c s₁ B hml hv
  obtain ⟨rfl, hsz, hP, hK, hD0, hG⟩ := hv
  have hx := B.exec
  have hb := B.bytes
  have hr := B.returns
  have hts : ∀ w ∈ GT, w.before _ s = true := fun w h => atoms_spec (ws := wSh_writeLengthInBits) B.pre w (List.mem_cons_of_mem _ h)
  have hown : s.vm.findClass R_Sh = some m.cls := findClass_of_methodNamed B.named
  have hlocks := B.notSynchronized
  subst hsz
  have hD := hD0.self (sz := s.heap.size)
  generalize hAe : va_A [(h, .inr (3, [.ref a1, .ref a2, .int (nI nh), .ref ts, .int (nI 8), .int (nI fl), .long tot, .int bc, .ref a3])), (a1, .inl (k 2, 8, .inr (.inl S))), (a2, .inl (k 0, 128, .inl (by_ b))), (a3, .inl (k 2, 80, .inr (.inl f)))] s.heap.size = A at hD hG ⊢
  have hA : ∀ q : Nat, s.heap.size ≤ q → A q := fun q h => by rw [← hAe]; exact Or.inr h
  have hl := lv_entry ([.ref h]) (n := 4) (Nat.le_of_ble_eq_true rfl)
  rw [lg_entry_eq]
  generalize (lg_sl ([.ref h]) ++ List.replicate (4 - (lg_sl ([.ref h])).length) Slot.unset).toArray = ls at hl ⊢
  have hl : lv_has ls 4 [(0, .ref h)] := hl
  refine cw_start (A := A) hP (fun H locs hP hS => ?_)
  refine lv_ldc2 (v := 8) hx hb hown (hts _ gm_426) dSh_writeLengthInBits_0 ?_
  refine lv_aload_n hx hb dSh_writeLengthInBits_3 rfl (lv_at hl 0 rfl) ?_
  refine va_get (D := D) (ci := 3) (v := .long tot) (C := R_Ws) (T := T_Ws) (N := 9) hx hb hts in_Ws hown hK hP 0 rfl rfl 6 (by decide) (hts _ gm_118) (fun _ h9 => h9) rfl dSh_writeLengthInBits_4 ?_
  refine lv_lmul hx hb dSh_writeLengthInBits_7 ?_
  refine lv_lstore_n (lv' := [(1, .long (8 * tot)), (0, .ref h)]) hx hb dSh_writeLengthInBits_8 rfl hl (by decide) rfl (fun ls hl => ?_)
  refine lv_iconst (v := nI 0) hx hb dSh_writeLengthInBits_9 (by decide) ?_
  refine lv_istore_n (lv' := [(3, .int (nI 0)), (1, .long (8 * tot)), (0, .ref h)]) hx hb dSh_writeLengthInBits_10 rfl hl (by decide) rfl (fun ls hl => ?_)
  refine ri_loop (fun i H locs ls => va_P D vwCl [(h, .inr (3, [.ref a1, .ref a2, .int (nI nh), .ref ts, .int (nI 8), .int (nI fl), .long tot, .int bc, .ref a3])), (a1, .inl (k 2, 8, .inr (.inl S))), (a2, .inl (k 0, 128, .inl (by_ (lnB b 128 (8 * tot) i)))), (a3, .inl (k 2, 80, .inr (.inl f)))] H ∧ va_D A [(h, .inr (3, [.ref a1, .ref a2, .int (nI nh), .ref ts, .int (nI 8), .int (nI fl), .long tot, .int bc, .ref a3])), (a1, .inl (k 2, 8, .inr (.inl S))), (a2, .inl (k 0, 128, .inl (by_ (lnB b 128 (8 * tot) i)))), (a3, .inl (k 2, 80, .inr (.inl f)))] ∧ va_S A s.heap H locs ∧ lv_has ls 4 [(3, .int (nI i)), (1, .long (8 * tot)), (0, .ref h)]) 8 0 ⟨hP, hD, hS, lv_sub hl [0, 1, 2] rfl⟩ (by omega) (fun i H locs ls lt_i ⟨hP, hD, hS, hl⟩ ih => ?_) (fun H locs ls ⟨hP, hD, hS, hl⟩ => ?_)
  · skip
    refine lv_iload_n hx hb dSh_writeLengthInBits_11 rfl (lv_at hl 0 rfl) ?_
    refine lv_bipush (v := nI 8) hx hb dSh_writeLengthInBits_12 (by decide) ?_
    refine ri_ge (tgt := 45) hx hb dSh_writeLengthInBits_14 (by decide) (by omega) (by omega) (fun c_14 => absurd c_14 (by omega)) (fun c_14 => ?_)
    refine lv_aload_n hx hb dSh_writeLengthInBits_17 rfl (lv_at hl 2 rfl) ?_
    refine va_get (D := D) (ci := 3) (v := .ref a2) (C := R_Ws) (T := T_Ws) (N := 9) hx hb hts in_Ws hown hK hP 0 rfl rfl 1 (by decide) (hts _ gm_107) (fun _ h9 => h9) rfl dSh_writeLengthInBits_18 ?_
    refine lv_aload_n hx hb dSh_writeLengthInBits_21 rfl (lv_at hl 2 rfl) ?_
    refine va_get (D := D) (ci := 3) (v := .ref a2) (C := R_Ws) (T := T_Ws) (N := 9) hx hb hts in_Ws hown hK hP 0 rfl rfl 1 (by decide) (hts _ gm_107) (fun _ h9 => h9) rfl dSh_writeLengthInBits_22 ?_
    refine ra_len hx hb hK hP 2 0 rfl rfl dSh_writeLengthInBits_25 ?_
    refine lv_iconst (v := nI 1) hx hb dSh_writeLengthInBits_26 (by decide) ?_
    refine ri_sub hx hb (by omega) dSh_writeLengthInBits_27 ?_
    refine lv_iload_n hx hb dSh_writeLengthInBits_28 rfl (lv_at hl 0 rfl) ?_
    refine ri_sub hx hb (by omega) dSh_writeLengthInBits_29 ?_
    refine lv_lload_n hx hb dSh_writeLengthInBits_30 rfl (lv_at hl 1 rfl) ?_
    refine lv_bipush (v := nI 8) hx hb dSh_writeLengthInBits_31 (by decide) ?_
    refine lv_iload_n hx hb dSh_writeLengthInBits_33 rfl (lv_at hl 0 rfl) ?_
    refine ri_mul hx hb dSh_writeLengthInBits_34 ?_
    refine lv_lushr (v := lu (8 * tot) (nI (8 * i))) hx hb dSh_writeLengthInBits_35 rfl ?_
    refine lv_l2i (v := (lu (8 * tot) (nI (8 * i))).toInt32) hx hb dSh_writeLengthInBits_36 rfl ?_
    refine lv_i2b (v := ((lu (8 * tot) (nI (8 * i))).toInt32).toInt8.toInt32) hx hb dSh_writeLengthInBits_37 rfl ?_
    refine rb_st (z := ((lu (8 * tot) (nI (8 * i))).toInt32).toInt8) hx hb hK hP hD hS 2 0 rfl rfl (by omega) (by omega) dSh_writeLengthInBits_38 (fun H locs hP hD hS => ?_)
    have hP : va_P D vwCl [(h, .inr (3, [.ref a1, .ref a2, .int (nI nh), .ref ts, .int (nI 8), .int (nI fl), .long tot, .int bc, .ref a3])), (a1, .inl (k 2, 8, .inr (.inl S))), (a2, .inl (k 0, 128, .inl (by_ (va_up (lnB b 128 (8 * tot) i) ((128 - 1) - i) (((lu (8 * tot) (nI (8 * i))).toInt32).toInt8))))), (a3, .inl (k 2, 80, .inr (.inl f)))] H := hP
    have hD : va_D A [(h, .inr (3, [.ref a1, .ref a2, .int (nI nh), .ref ts, .int (nI 8), .int (nI fl), .long tot, .int bc, .ref a3])), (a1, .inl (k 2, 8, .inr (.inl S))), (a2, .inl (k 0, 128, .inl (by_ (va_up (lnB b 128 (8 * tot) i) ((128 - 1) - i) (((lu (8 * tot) (nI (8 * i))).toInt32).toInt8))))), (a3, .inl (k 2, 80, .inr (.inl f)))] := hD
    refine ri_inc (lv' := [(3, .int (nI (i + 1))), (1, .long (8 * tot)), (0, .ref h)]) (k := 0) (d := 1) hx hb dSh_writeLengthInBits_39 hl rfl (by decide) (by decide) rfl (fun ls hl => ?_)
    refine lv_goto (tgt := 11) hx hb dSh_writeLengthInBits_42 (by decide) ?_
    exact ih _ _ _ ⟨hP, hD, hS, lv_sub hl [0, 1, 2] rfl⟩
  · skip
    refine lv_iload_n hx hb dSh_writeLengthInBits_11 rfl (lv_at hl 0 rfl) ?_
    refine lv_bipush (v := nI 8) hx hb dSh_writeLengthInBits_12 (by decide) ?_
    refine ri_ge (tgt := 45) hx hb dSh_writeLengthInBits_14 (by decide) (by omega) (by omega) (fun c_14 => ?_) (fun c_14 => absurd c_14 (by omega))
    refine W.widen (k := 0) (n := 0) (Nat.le_refl _) (Nat.le_refl _) ?_
    exact W.vret hx hb hr (fun t ht hW => ⟨⟨(), rfl, trivial, by rw [ht]; exact hP, hD⟩, hS.F ht⟩) hS.2.2 dSh_writeLengthInBits_45
set_option maxHeartbeats 600000 in
set_option maxRecDepth 100000 in
theorem c_W_hash (l : Launch) (D : va_G) (k : Nat → ClassId) (tb : Nat → Nat) (sz : Nat) (h a1 a2 a3 ts nh fl : Nat) (tot : Int64) (bc : Int32) (S : Nat → Int64) (b : Nat → Int8) (f : Nat → Int64) (to n0 first : Nat) (g : Nat → Int8) (hnh : nh ≤ 64) (hs : first + nh ≤ n0) (hn : n0 < 2 ^ 31) : Met l ySh_writeHash wSh_writeHash ({ frames := 0, cells := 0, slots := 0, locals := 0 }) (cP D k tb [(h, .inr (3, [.ref a1, .ref a2, .int (nI nh), .ref ts, .int (nI 8), .int (nI fl), .long tot, .int bc, .ref a3])), (a1, .inl (k 2, 8, .inr (.inl S))), (a2, .inl (k 0, 128, .inl (by_ b))), (a3, .inl (k 2, 80, .inr (.inl f))), (to, .inl (k 0, n0, .inl (by_ g)))] sz [.ref h, .ref to, .int (nI first)]) (va_Qv (fun (u : Unit) => True) (fun (u : Unit) (t : State) => va_P D vwCl [(h, .inr (3, [.ref a1, .ref a2, .int (nI nh), .ref ts, .int (nI 8), .int (nI fl), .long tot, .int bc, .ref a3])), (a1, .inl (k 2, 8, .inr (.inl S))), (a2, .inl (k 0, 128, .inl (by_ b))), (a3, .inl (k 2, 80, .inr (.inl f))), (to, .inl (k 0, n0, .inl (by_ (whB S 8 g first nh))))] t.heap ∧ va_D (va_A [(h, .inr (3, [.ref a1, .ref a2, .int (nI nh), .ref ts, .int (nI 8), .int (nI fl), .long tot, .int bc, .ref a3])), (a1, .inl (k 2, 8, .inr (.inl S))), (a2, .inl (k 0, 128, .inl (by_ b))), (a3, .inl (k 2, 80, .inr (.inl f))), (to, .inl (k 0, n0, .inl (by_ g)))] sz) [(h, .inr (3, [.ref a1, .ref a2, .int (nI nh), .ref ts, .int (nI 8), .int (nI fl), .long tot, .int bc, .ref a3])), (a1, .inl (k 2, 8, .inr (.inl S))), (a2, .inl (k 0, 128, .inl (by_ b))), (a3, .inl (k 2, 80, .inr (.inl f))), (to, .inl (k 0, n0, .inl (by_ (whB S 8 g first nh))))]) (va_A [(h, .inr (3, [.ref a1, .ref a2, .int (nI nh), .ref ts, .int (nI 8), .int (nI fl), .long tot, .int bc, .ref a3])), (a1, .inl (k 2, 8, .inr (.inl S))), (a2, .inl (k 0, 128, .inl (by_ b))), (a3, .inl (k 2, 80, .inr (.inl f))), (to, .inl (k 0, n0, .inl (by_ g)))] sz)) (0) (0) (va_A [(h, .inr (3, [.ref a1, .ref a2, .int (nI nh), .ref ts, .int (nI 8), .int (nI fl), .long tot, .int bc, .ref a3])), (a1, .inl (k 2, 8, .inr (.inl S))), (a2, .inl (k 0, 128, .inl (by_ b))), (a3, .inl (k 2, 80, .inr (.inl f))), (to, .inl (k 0, n0, .inl (by_ g)))] sz) := by
  refine Met.ofW (cc := cSh_writeHash) (maxL := 5) (ret := none) (by decide) rfl ?_
  intro p e s m args below meth c s₁ B hml hv
  obtain ⟨rfl, hsz, hP, hK, hD0, hG⟩ := hv
  have hx := B.exec
  have hb := B.bytes
  have hr := B.returns
  have hts : ∀ w ∈ GT, w.before _ s = true := fun w h => atoms_spec (ws := wSh_writeHash) B.pre w (List.mem_cons_of_mem _ h)
  have hown : s.vm.findClass R_Sh = some m.cls := findClass_of_methodNamed B.named
  have hlocks := B.notSynchronized
  subst hsz
  have hD := hD0.self (sz := s.heap.size)
  generalize hAe : va_A [(h, .inr (3, [.ref a1, .ref a2, .int (nI nh), .ref ts, .int (nI 8), .int (nI fl), .long tot, .int bc, .ref a3])), (a1, .inl (k 2, 8, .inr (.inl S))), (a2, .inl (k 0, 128, .inl (by_ b))), (a3, .inl (k 2, 80, .inr (.inl f))), (to, .inl (k 0, n0, .inl (by_ g)))] s.heap.size = A at hD hG ⊢
  have hA : ∀ q : Nat, s.heap.size ≤ q → A q := fun q h => by rw [← hAe]; exact Or.inr h
  have hl := lv_entry ([.ref h, .ref to, .int (nI first)]) (n := 5) (Nat.le_of_ble_eq_true rfl)
  rw [lg_entry_eq]
  generalize (lg_sl ([.ref h, .ref to, .int (nI first)]) ++ List.replicate (5 - (lg_sl ([.ref h, .ref to, .int (nI first)])).length) Slot.unset).toArray = ls at hl ⊢
  have hl : lv_has ls 5 [(0, .ref h), (1, .ref to), (2, .int (nI first))] := hl
  refine cw_start (A := A) hP (fun H locs hP hS => ?_)
  refine lv_iconst (v := nI 0) hx hb dSh_writeHash_0 (by decide) ?_
  refine lv_istore_n (lv' := [(3, .int (nI 0)), (0, .ref h), (1, .ref to), (2, .int (nI first))]) hx hb dSh_writeHash_1 rfl hl (by decide) rfl (fun ls hl => ?_)
  refine ri_loop (fun i H locs ls => va_P D vwCl [(h, .inr (3, [.ref a1, .ref a2, .int (nI nh), .ref ts, .int (nI 8), .int (nI fl), .long tot, .int bc, .ref a3])), (a1, .inl (k 2, 8, .inr (.inl S))), (a2, .inl (k 0, 128, .inl (by_ b))), (a3, .inl (k 2, 80, .inr (.inl f))), (to, .inl (k 0, n0, .inl (by_ (whB S 8 g first i))))] H ∧ va_D A [(h, .inr (3, [.ref a1, .ref a2, .int (nI nh), .ref ts, .int (nI 8), .int (nI fl), .long tot, .int bc, .ref a3])), (a1, .inl (k 2, 8, .inr (.inl S))), (a2, .inl (k 0, 128, .inl (by_ b))), (a3, .inl (k 2, 80, .inr (.inl f))), (to, .inl (k 0, n0, .inl (by_ (whB S 8 g first i))))] ∧ va_S A s.heap H locs ∧ lv_has ls 5 [(3, .int (nI i)), (0, .ref h), (1, .ref to), (2, .int (nI first))]) nh 0 ⟨hP, hD, hS, lv_sub hl [0, 1, 2, 3] rfl⟩ (by omega) (fun i H locs ls lt_i ⟨hP, hD, hS, hl⟩ ih => ?_) (fun H locs ls ⟨hP, hD, hS, hl⟩ => ?_)
  · skip
    refine lv_iload_n hx hb dSh_writeHash_2 rfl (lv_at hl 0 rfl) ?_
    refine lv_aload_n hx hb dSh_writeHash_3 rfl (lv_at hl 1 rfl) ?_
    refine va_get (D := D) (ci := 3) (v := .int (nI nh)) (C := R_Ws) (T := T_Ws) (N := 9) hx hb hts in_Ws hown hK hP 0 rfl rfl 2 (by decide) (hts _ gm_112) (fun _ h9 => h9) rfl dSh_writeHash_4 ?_
    refine ri_ge (tgt := 55) hx hb dSh_writeHash_7 (by decide) (by omega) (by omega) (fun c_7 => absurd c_7 (by omega)) (fun c_7 => ?_)
    refine lv_bipush (v := nI 8) hx hb dSh_writeHash_10 (by decide) ?_
    refine lv_aload_n hx hb dSh_writeHash_12 rfl (lv_at hl 1 rfl) ?_
    refine va_get (D := D) (ci := 3) (v := .int (nI 8)) (C := R_Ws) (T := T_Ws) (N := 9) hx hb hts in_Ws hown hK hP 0 rfl rfl 4 (by decide) (hts _ gm_116) (fun _ h9 => h9) rfl dSh_writeHash_13 ?_
    refine lv_iconst (v := nI 1) hx hb dSh_writeHash_16 (by decide) ?_
    refine ri_sub hx hb (by omega) dSh_writeHash_17 ?_
    refine lv_iload_n hx hb dSh_writeHash_18 rfl (lv_at hl 0 rfl) ?_
    refine lv_aload_n hx hb dSh_writeHash_19 rfl (lv_at hl 1 rfl) ?_
    refine va_get (D := D) (ci := 3) (v := .int (nI 8)) (C := R_Ws) (T := T_Ws) (N := 9) hx hb hts in_Ws hown hK hP 0 rfl rfl 4 (by decide) (hts _ gm_116) (fun _ h9 => h9) rfl dSh_writeHash_20 ?_
    refine ri_rem hx hb (by omega) (by omega) (by omega) dSh_writeHash_23 ?_
    refine ri_sub hx hb (by omega) dSh_writeHash_24 ?_
    refine ri_mul hx hb dSh_writeHash_25 ?_
    refine lv_istore (lv' := [(4, .int (nI (8 * ((8 - 1) - (i % 8))))), (3, .int (nI i)), (0, .ref h), (1, .ref to), (2, .int (nI first))]) hx hb dSh_writeHash_26 hl (by decide) rfl (fun ls hl => ?_)
    refine lv_aload_n hx hb dSh_writeHash_28 rfl (lv_at hl 3 rfl) ?_
    refine lv_iload_n hx hb dSh_writeHash_29 rfl (lv_at hl 4 rfl) ?_
    refine lv_iload_n hx hb dSh_writeHash_30 rfl (lv_at hl 1 rfl) ?_
    refine ri_add hx hb dSh_writeHash_31 ?_
    refine lv_aload_n hx hb dSh_writeHash_32 rfl (lv_at hl 2 rfl) ?_
    refine va_get (D := D) (ci := 3) (v := .ref a1) (C := R_Ws) (T := T_Ws) (N := 9) hx hb hts in_Ws hown hK hP 0 rfl rfl 0 (by decide) (hts _ gm_100) (fun _ h9 => h9) rfl dSh_writeHash_33 ?_
    refine lv_iload_n hx hb dSh_writeHash_36 rfl (lv_at hl 1 rfl) ?_
    refine lv_aload_n hx hb dSh_writeHash_37 rfl (lv_at hl 2 rfl) ?_
    refine va_get (D := D) (ci := 3) (v := .int (nI 8)) (C := R_Ws) (T := T_Ws) (N := 9) hx hb hts in_Ws hown hK hP 0 rfl rfl 4 (by decide) (hts _ gm_116) (fun _ h9 => h9) rfl dSh_writeHash_38 ?_
    refine ri_div hx hb (by omega) (by omega) (by omega) dSh_writeHash_41 ?_
    refine rl_ld hx hb hK hP 1 2 rfl rfl (by omega) (by omega) dSh_writeHash_42 ?_
    refine lv_iload hx hb dSh_writeHash_43 (lv_at hl 0 rfl) ?_
    refine lv_lushr (v := lu (S (i / 8)) (nI (8 * ((8 - 1) - (i % 8))))) hx hb dSh_writeHash_45 rfl ?_
    refine lv_l2i (v := (lu (S (i / 8)) (nI (8 * ((8 - 1) - (i % 8))))).toInt32) hx hb dSh_writeHash_46 rfl ?_
    refine lv_i2b (v := ((lu (S (i / 8)) (nI (8 * ((8 - 1) - (i % 8))))).toInt32).toInt8.toInt32) hx hb dSh_writeHash_47 rfl ?_
    refine rb_st (z := ((lu (S (i / 8)) (nI (8 * ((8 - 1) - (i % 8))))).toInt32).toInt8) hx hb hK hP hD hS 4 0 rfl rfl (by omega) (by omega) dSh_writeHash_48 (fun H locs hP hD hS => ?_)
    have hP : va_P D vwCl [(h, .inr (3, [.ref a1, .ref a2, .int (nI nh), .ref ts, .int (nI 8), .int (nI fl), .long tot, .int bc, .ref a3])), (a1, .inl (k 2, 8, .inr (.inl S))), (a2, .inl (k 0, 128, .inl (by_ b))), (a3, .inl (k 2, 80, .inr (.inl f))), (to, .inl (k 0, n0, .inl (by_ (va_up (whB S 8 g first i) (first + i) (((lu (S (i / 8)) (nI (8 * ((8 - 1) - (i % 8))))).toInt32).toInt8)))))] H := hP
    have hD : va_D A [(h, .inr (3, [.ref a1, .ref a2, .int (nI nh), .ref ts, .int (nI 8), .int (nI fl), .long tot, .int bc, .ref a3])), (a1, .inl (k 2, 8, .inr (.inl S))), (a2, .inl (k 0, 128, .inl (by_ b))), (a3, .inl (k 2, 80, .inr (.inl f))), (to, .inl (k 0, n0, .inl (by_ (va_up (whB S 8 g first i) (first + i) (((lu (S (i / 8)) (nI (8 * ((8 - 1) - (i % 8))))).toInt32).toInt8)))))] := hD
    refine ri_inc (lv' := [(3, .int (nI (i + 1))), (4, .int (nI (8 * ((8 - 1) - (i % 8))))), (0, .ref h), (1, .ref to), (2, .int (nI first))]) (k := 1) (d := 1) hx hb dSh_writeHash_49 hl rfl (by decide) (by decide) rfl (fun ls hl => ?_)
    refine lv_goto (tgt := 2) hx hb dSh_writeHash_52 (by decide) ?_
    exact ih _ _ _ ⟨hP, hD, hS, lv_sub hl [0, 2, 3, 4] rfl⟩
  · skip
    refine lv_iload_n hx hb dSh_writeHash_2 rfl (lv_at hl 0 rfl) ?_
    refine lv_aload_n hx hb dSh_writeHash_3 rfl (lv_at hl 1 rfl) ?_
    refine va_get (D := D) (ci := 3) (v := .int (nI nh)) (C := R_Ws) (T := T_Ws) (N := 9) hx hb hts in_Ws hown hK hP 0 rfl rfl 2 (by decide) (hts _ gm_112) (fun _ h9 => h9) rfl dSh_writeHash_4 ?_
    refine ri_ge (tgt := 55) hx hb dSh_writeHash_7 (by decide) (by omega) (by omega) (fun c_7 => ?_) (fun c_7 => absurd c_7 (by omega))
    refine W.widen (k := 0) (n := 0) (Nat.le_refl _) (Nat.le_refl _) ?_
    exact W.vret hx hb hr (fun t ht hW => ⟨⟨(), rfl, trivial, by rw [ht]; exact hP, hD⟩, hS.F ht⟩) hS.2.2 dSh_writeHash_55
