set_option maxHeartbeats 600000 in
set_option maxRecDepth 100000 in
theorem c_W_close (l : Launch) (D : va_G) (k : Nat → ClassId) (tb : Nat → Nat) (sz : Nat) (h a1 a2 a3 ts nh fl : Nat) (tot : Int64) (bc : Int32) (S : Nat → Int64) (b : Nat → Int8) (f : Nat → Int64) (to n0 first : Nat) (g : Nat → Int8) (hfl : fl < 128) (hnh : nh ≤ 64) (hs : first + nh ≤ n0) (hn : n0 < 2 ^ 31) : Met l ySh_close wSh_close ({ frames := 3, cells := 0, slots := 0, locals := 82 }) (cP D k tb [(h, .inr (3, [.ref a1, .ref a2, .int (nI nh), .ref ts, .int (nI 8), .int (nI fl), .long tot, .int bc, .ref a3])), (a1, .inl (k 2, 8, .inr (.inl S))), (a2, .inl (k 0, 128, .inl (by_ b))), (a3, .inl (k 2, 80, .inr (.inl f))), (to, .inl (k 0, n0, .inl (by_ g)))] sz [.ref h, .ref to, .int (nI first)]) (va_Qv (fun (u : ShS × (Nat → Int64)) => u.1 = clS 128 8 cmpW (S, b, fl, bc) tot) (fun (u : ShS × (Nat → Int64)) (t : State) => va_P D vwCl [(h, .inr (3, [.ref a1, .ref a2, .int (nI nh), .ref ts, .int (nI 8), .int (nI (u.1.2.2.1)), .long tot, .int u.1.2.2.2, .ref a3])), (a1, .inl (k 2, 8, .inr (.inl u.1.1))), (a2, .inl (k 0, 128, .inl (by_ u.1.2.1))), (a3, .inl (k 2, 80, .inr (.inl u.2))), (to, .inl (k 0, n0, .inl (by_ (whB u.1.1 8 g first nh))))] t.heap ∧ va_D (va_A [(h, .inr (3, [.ref a1, .ref a2, .int (nI nh), .ref ts, .int (nI 8), .int (nI fl), .long tot, .int bc, .ref a3])), (a1, .inl (k 2, 8, .inr (.inl S))), (a2, .inl (k 0, 128, .inl (by_ b))), (a3, .inl (k 2, 80, .inr (.inl f))), (to, .inl (k 0, n0, .inl (by_ g)))] sz) [(h, .inr (3, [.ref a1, .ref a2, .int (nI nh), .ref ts, .int (nI 8), .int (nI (u.1.2.2.1)), .long tot, .int u.1.2.2.2, .ref a3])), (a1, .inl (k 2, 8, .inr (.inl u.1.1))), (a2, .inl (k 0, 128, .inl (by_ u.1.2.1))), (a3, .inl (k 2, 80, .inr (.inl u.2))), (to, .inl (k 0, n0, .inl (by_ (whB u.1.1 8 g first nh))))]) (va_A [(h, .inr (3, [.ref a1, .ref a2, .int (nI nh), .ref ts, .int (nI 8), .int (nI fl), .long tot, .int bc, .ref a3])), (a1, .inl (k 2, 8, .inr (.inl S))), (a2, .inl (k 0, 128, .inl (by_ b))), (a3, .inl (k 2, 80, .inr (.inl f))), (to, .inl (k 0, n0, .inl (by_ g)))] sz)) (0) (0) (va_A [(h, .inr (3, [.ref a1, .ref a2, .int (nI nh), .ref ts, .int (nI 8), .int (nI fl), .long tot, .int bc, .ref a3])), (a1, .inl (k 2, 8, .inr (.inl S))), (a2, .inl (k 0, 128, .inl (by_ b))), (a3, .inl (k 2, 80, .inr (.inl f))), (to, .inl (k 0, n0, .inl (by_ g)))] sz) := by
  refine Met.ofW (cc := cSh_close) (maxL := 3) (ret := none) (by decide) rfl ?_
  intro p e s m args below meth c s₁ B hml hv
  obtain ⟨rfl, hsz, hP, hK, hD0, hG⟩ := hv
  have hx := B.exec
  have hb := B.bytes
  have hr := B.returns
  have hts : ∀ w ∈ GT, w.before _ s = true := fun w h => atoms_spec (ws := wSh_close) B.pre w (List.mem_cons_of_mem _ h)
  have hown : s.vm.findClass R_Sh = some m.cls := findClass_of_methodNamed B.named
  have hlocks := B.notSynchronized
  subst hsz
  have hD := hD0.self (sz := s.heap.size)
  generalize hAe : va_A [(h, .inr (3, [.ref a1, .ref a2, .int (nI nh), .ref ts, .int (nI 8), .int (nI fl), .long tot, .int bc, .ref a3])), (a1, .inl (k 2, 8, .inr (.inl S))), (a2, .inl (k 0, 128, .inl (by_ b))), (a3, .inl (k 2, 80, .inr (.inl f))), (to, .inl (k 0, n0, .inl (by_ g)))] s.heap.size = A at hD hG ⊢
  have hA : ∀ q : Nat, s.heap.size ≤ q → A q := fun q h => by rw [← hAe]; exact Or.inr h
  have hl := lv_entry ([.ref h, .ref to, .int (nI first)]) (n := 3) (Nat.le_of_ble_eq_true rfl)
  rw [lg_entry_eq]
  generalize (lg_sl ([.ref h, .ref to, .int (nI first)]) ++ List.replicate (3 - (lg_sl ([.ref h, .ref to, .int (nI first)])).length) Slot.unset).toArray = ls at hl ⊢
  have hl : lv_has ls 3 [(0, .ref h), (1, .ref to), (2, .int (nI first))] := hl
  refine cw_start (A := A) hP (fun H locs hP hS => ?_)
  refine lv_aload_n hx hb dSh_close_0 rfl (lv_at hl 0 rfl) ?_
  refine va_get (D := D) (ci := 3) (v := .ref a2) (C := R_Ws) (T := T_Ws) (N := 9) hx hb hts in_Ws hown hK hP 0 rfl rfl 1 (by decide) (hts _ gm_107) (fun _ h9 => h9) rfl dSh_close_1 ?_
  refine lv_aload_n hx hb dSh_close_4 rfl (lv_at hl 0 rfl) ?_
  refine va_get (D := D) (ci := 3) (v := .int (nI fl)) (C := R_Ws) (T := T_Ws) (N := 9) hx hb hts in_Ws hown hK hP 0 rfl rfl 5 (by decide) (hts _ gm_117) (fun _ h9 => h9) rfl dSh_close_5 ?_
  refine lv_bipush (v := (-128 : Int8).toInt32) hx hb dSh_close_8 (by decide) ?_
  refine rb_st (z := (-128 : Int8)) hx hb hK hP hD hS 2 0 rfl rfl (by omega) (by omega) dSh_close_10 (fun H locs hP hD hS => ?_)
  have hP : va_P D vwCl [(h, .inr (3, [.ref a1, .ref a2, .int (nI nh), .ref ts, .int (nI 8), .int (nI fl), .long tot, .int bc, .ref a3])), (a1, .inl (k 2, 8, .inr (.inl S))), (a2, .inl (k 0, 128, .inl (by_ (va_up b fl (-128 : Int8))))), (a3, .inl (k 2, 80, .inr (.inl f))), (to, .inl (k 0, n0, .inl (by_ g)))] H := hP
  have hD : va_D A [(h, .inr (3, [.ref a1, .ref a2, .int (nI nh), .ref ts, .int (nI 8), .int (nI fl), .long tot, .int bc, .ref a3])), (a1, .inl (k 2, 8, .inr (.inl S))), (a2, .inl (k 0, 128, .inl (by_ (va_up b fl (-128 : Int8))))), (a3, .inl (k 2, 80, .inr (.inl f))), (to, .inl (k 0, n0, .inl (by_ g)))] := hD
  refine lv_aload_n hx hb dSh_close_11 rfl (lv_at hl 0 rfl) ?_
  refine lv_dup hx hb dSh_close_12 rfl ?_
  refine va_get (D := D) (ci := 3) (v := .int (nI fl)) (C := R_Ws) (T := T_Ws) (N := 9) hx hb hts in_Ws hown hK hP 0 rfl rfl 5 (by decide) (hts _ gm_117) (fun _ h9 => h9) rfl dSh_close_13 ?_
  refine lv_iconst (v := nI 1) hx hb dSh_close_16 (by decide) ?_
  refine ri_add hx hb dSh_close_17 ?_
  refine va_put (D := D) (ci := 3) (v := .int (nI (fl + 1))) (ty := .int) (C := R_Ws) (T := T_Ws) (N := 9) hx hb hts in_Ws t_Ws tk_Ws nm_Ws hown hK hP hD hS 0 rfl rfl 5 (by decide) (hts _ gm_117) (fun _ h9 => h9) rfl (by decide +kernel) rfl rfl (Nat.le_of_ble_eq_true rfl) dSh_close_18 (fun H locs hP hD hS => ?_)
  have hP : va_P D vwCl [(h, .inr (3, [.ref a1, .ref a2, .int (nI nh), .ref ts, .int (nI 8), .int (nI (fl + 1)), .long tot, .int bc, .ref a3])), (a1, .inl (k 2, 8, .inr (.inl S))), (a2, .inl (k 0, 128, .inl (by_ (va_up b fl (-128 : Int8))))), (a3, .inl (k 2, 80, .inr (.inl f))), (to, .inl (k 0, n0, .inl (by_ g)))] H := hP
  have hD : va_D A [(h, .inr (3, [.ref a1, .ref a2, .int (nI nh), .ref ts, .int (nI 8), .int (nI (fl + 1)), .long tot, .int bc, .ref a3])), (a1, .inl (k 2, 8, .inr (.inl S))), (a2, .inl (k 0, 128, .inl (by_ (va_up b fl (-128 : Int8))))), (a3, .inl (k 2, 80, .inr (.inl f))), (to, .inl (k 0, n0, .inl (by_ g)))] := hD
  refine lv_aload_n hx hb dSh_close_21 rfl (lv_at hl 0 rfl) ?_
  refine va_get (D := D) (ci := 3) (v := .int (nI (fl + 1))) (C := R_Ws) (T := T_Ws) (N := 9) hx hb hts in_Ws hown hK hP 0 rfl rfl 5 (by decide) (hts _ gm_117) (fun _ h9 => h9) rfl dSh_close_22 ?_
  refine lv_aload_n hx hb dSh_close_25 rfl (lv_at hl 0 rfl) ?_
  refine va_get (D := D) (ci := 3) (v := .ref a2) (C := R_Ws) (T := T_Ws) (N := 9) hx hb hts in_Ws hown hK hP 0 rfl rfl 1 (by decide) (hts _ gm_107) (fun _ h9 => h9) rfl dSh_close_26 ?_
  refine ra_len hx hb hK hP 2 0 rfl rfl dSh_close_29 ?_
  refine lv_iconst (v := nI 2) hx hb dSh_close_30 (by decide) ?_
  refine lv_aload_n hx hb dSh_close_31 rfl (lv_at hl 0 rfl) ?_
  refine va_get (D := D) (ci := 3) (v := .int (nI 8)) (C := R_Ws) (T := T_Ws) (N := 9) hx hb hts in_Ws hown hK hP 0 rfl rfl 4 (by decide) (hts _ gm_116) (fun _ h9 => h9) rfl dSh_close_32 ?_
  refine ri_mul hx hb dSh_close_35 ?_
  refine ri_sub hx hb (by omega) dSh_close_36 ?_
  refine ri_le (tgt := 48) hx hb dSh_close_37 (by decide) (by omega) (by omega) (fun c_37 => ?_) (fun c_37 => ?_)
  · skip
    refine lv_aload_n hx hb dSh_close_48 rfl (lv_at hl 0 rfl) ?_
    refine rc_v (wr := [(to, .inl (k 0, n0, .inl (by_ g)))]) (va_runU (As := []) (rest := []) ⟨hx, hb, hml, hown, hts⟩ (c_W_zeros l D k tb H.size h a1 a2 a3 ts nh (fl + 1) tot bc S (va_up b fl (-128 : Int8)) f (by omega)) (va_cwU 0 hts (gU gm_395 gm_675 gm_20 gm_396 gm_52 gm_397) rfl rfl rfl rfl (by decide +kernel) ⟨Nat.le_of_ble_eq_true rfl, Nat.le_of_ble_eq_true rfl⟩) (cP_V hP hD hK hG hS hA [0, 1, 2, 3] (by decide) rfl (ci := 3) (q0 := 0) rfl rfl) rfl rfl hl.1 rfl (lv_room (Nat.le_of_ble_eq_true rfl)) dSh_close_49 ⟨Nat.le_of_ble_eq_true rfl, Nat.le_of_ble_eq_true rfl⟩) hS hA hP hD [0, 1, 2, 3] [4] rfl rfl (by decide) (by decide) (fun u H locs hw hP hD hS => ?_)
    have hP : va_P D vwCl [(to, .inl (k 0, n0, .inl (by_ g))), (h, .inr (3, [.ref a1, .ref a2, .int (nI nh), .ref ts, .int (nI 8), .int (nI (fl + 1)), .long tot, .int bc, .ref a3])), (a1, .inl (k 2, 8, .inr (.inl S))), (a2, .inl (k 0, 128, .inl (by_ (zf (va_up b fl (-128 : Int8)) (fl + 1) 128)))), (a3, .inl (k 2, 80, .inr (.inl f)))] H := hP
    have hD : va_D A [(to, .inl (k 0, n0, .inl (by_ g))), (h, .inr (3, [.ref a1, .ref a2, .int (nI nh), .ref ts, .int (nI 8), .int (nI (fl + 1)), .long tot, .int bc, .ref a3])), (a1, .inl (k 2, 8, .inr (.inl S))), (a2, .inl (k 0, 128, .inl (by_ (zf (va_up b fl (-128 : Int8)) (fl + 1) 128)))), (a3, .inl (k 2, 80, .inr (.inl f)))] := hD
    refine lv_aload_n hx hb dSh_close_52 rfl (lv_at hl 0 rfl) ?_
    refine rc_v (wr := [(to, .inl (k 0, n0, .inl (by_ g)))]) (va_runU (As := []) (rest := []) ⟨hx, hb, hml, hown, hts⟩ (c_W_bits l D k tb H.size h a1 a2 a3 ts nh (fl + 1) tot bc S (zf (va_up b fl (-128 : Int8)) (fl + 1) 128) f) (va_cwU 0 hts (gU gm_423 gm_676 gm_22 gm_424 gm_52 gm_425) rfl rfl rfl rfl (by decide +kernel) ⟨Nat.le_of_ble_eq_true rfl, Nat.le_of_ble_eq_true rfl⟩) (cP_V hP hD hK hG hS hA [1, 2, 3, 4] (by decide) rfl (ci := 3) (q0 := 1) rfl rfl) rfl rfl hl.1 rfl (lv_room (Nat.le_of_ble_eq_true rfl)) dSh_close_53 ⟨Nat.le_of_ble_eq_true rfl, Nat.le_of_ble_eq_true rfl⟩) hS hA hP hD [1, 2, 3, 4] [0] rfl rfl (by decide) (by decide) (fun u H locs hw hP hD hS => ?_)
    have hP : va_P D vwCl [(to, .inl (k 0, n0, .inl (by_ g))), (h, .inr (3, [.ref a1, .ref a2, .int (nI nh), .ref ts, .int (nI 8), .int (nI (fl + 1)), .long tot, .int bc, .ref a3])), (a1, .inl (k 2, 8, .inr (.inl S))), (a2, .inl (k 0, 128, .inl (by_ (lnB (zf (va_up b fl (-128 : Int8)) (fl + 1) 128) 128 (8 * tot) 8)))), (a3, .inl (k 2, 80, .inr (.inl f)))] H := hP
    have hD : va_D A [(to, .inl (k 0, n0, .inl (by_ g))), (h, .inr (3, [.ref a1, .ref a2, .int (nI nh), .ref ts, .int (nI 8), .int (nI (fl + 1)), .long tot, .int bc, .ref a3])), (a1, .inl (k 2, 8, .inr (.inl S))), (a2, .inl (k 0, 128, .inl (by_ (lnB (zf (va_up b fl (-128 : Int8)) (fl + 1) 128) 128 (8 * tot) 8)))), (a3, .inl (k 2, 80, .inr (.inl f)))] := hD
    refine lv_aload_n hx hb dSh_close_56 rfl (lv_at hl 0 rfl) ?_
    refine rc_v (wr := [(to, .inl (k 0, n0, .inl (by_ g)))]) (va_runU (As := []) (rest := []) ⟨hx, hb, hml, hown, hts⟩ (c_W_goOver l D k tb H.size h a1 a2 a3 ts nh (fl + 1) tot bc S (lnB (zf (va_up b fl (-128 : Int8)) (fl + 1) 128) 128 (8 * tot) 8) f) (va_cwU 0 hts (gU gm_335 gm_672 gm_13 gm_336 gm_52 gm_337) rfl rfl rfl rfl (by decide +kernel) ⟨Nat.le_of_ble_eq_true rfl, Nat.le_of_ble_eq_true rfl⟩) (cP_V hP hD hK hG hS hA [1, 2, 3, 4] (by decide) rfl (ci := 3) (q0 := 1) rfl rfl) rfl rfl hl.1 rfl (lv_room (Nat.le_of_ble_eq_true rfl)) dSh_close_57 ⟨Nat.le_of_ble_eq_true rfl, Nat.le_of_ble_eq_true rfl⟩) hS hA hP hD [1, 2, 3, 4] [0] rfl rfl (by decide) (by decide) (fun f2 H locs hw hP hD hS => ?_)
    have hP : va_P D vwCl [(to, .inl (k 0, n0, .inl (by_ g))), (h, .inr (3, [.ref a1, .ref a2, .int (nI nh), .ref ts, .int (nI 8), .int (nI 0), .long tot, .int (bc + 1), .ref a3])), (a1, .inl (k 2, 8, .inr (.inl (cmpW S (lnB (zf (va_up b fl (-128 : Int8)) (fl + 1) 128) 128 (8 * tot) 8))))), (a2, .inl (k 0, 128, .inl (by_ (lnB (zf (va_up b fl (-128 : Int8)) (fl + 1) 128) 128 (8 * tot) 8)))), (a3, .inl (k 2, 80, .inr (.inl f2)))] H := hP
    have hD : va_D A [(to, .inl (k 0, n0, .inl (by_ g))), (h, .inr (3, [.ref a1, .ref a2, .int (nI nh), .ref ts, .int (nI 8), .int (nI 0), .long tot, .int (bc + 1), .ref a3])), (a1, .inl (k 2, 8, .inr (.inl (cmpW S (lnB (zf (va_up b fl (-128 : Int8)) (fl + 1) 128) 128 (8 * tot) 8))))), (a2, .inl (k 0, 128, .inl (by_ (lnB (zf (va_up b fl (-128 : Int8)) (fl + 1) 128) 128 (8 * tot) 8)))), (a3, .inl (k 2, 80, .inr (.inl f2)))] := hD
    refine lv_aload_n hx hb dSh_close_60 rfl (lv_at hl 0 rfl) ?_
    refine lv_aload_n hx hb dSh_close_61 rfl (lv_at hl 1 rfl) ?_
    refine lv_iload_n hx hb dSh_close_62 rfl (lv_at hl 2 rfl) ?_
    refine rc_v (wr := []) (va_runU (As := [.ref to, .int (nI first)]) (rest := []) ⟨hx, hb, hml, hown, hts⟩ (c_W_hash l D k tb H.size h a1 a2 a3 ts nh 0 tot (bc + 1) (cmpW S (lnB (zf (va_up b fl (-128 : Int8)) (fl + 1) 128) 128 (8 * tot) 8)) (lnB (zf (va_up b fl (-128 : Int8)) (fl + 1) 128) 128 (8 * tot) 8) f2 to n0 first g (by omega) (by omega) (by omega)) (va_cwU 2 hts (gU gm_427 gm_677 gm_24 gm_428 gm_52 gm_429) rfl rfl rfl rfl (by decide +kernel) ⟨Nat.le_of_ble_eq_true rfl, Nat.le_of_ble_eq_true rfl⟩) (cP_V hP hD hK hG hS hA [1, 2, 3, 4, 0] (by decide) rfl (ci := 3) (q0 := 1) rfl rfl) rfl rfl hl.1 rfl (lv_room (Nat.le_of_ble_eq_true rfl)) dSh_close_63 ⟨Nat.le_of_ble_eq_true rfl, Nat.le_of_ble_eq_true rfl⟩) hS hA hP hD [1, 2, 3, 4, 0] [] rfl rfl (by decide) (by decide) (fun u H locs hw hP hD hS => ?_)
    have hP : va_P D vwCl [(h, .inr (3, [.ref a1, .ref a2, .int (nI nh), .ref ts, .int (nI 8), .int (nI 0), .long tot, .int (bc + 1), .ref a3])), (a1, .inl (k 2, 8, .inr (.inl (cmpW S (lnB (zf (va_up b fl (-128 : Int8)) (fl + 1) 128) 128 (8 * tot) 8))))), (a2, .inl (k 0, 128, .inl (by_ (lnB (zf (va_up b fl (-128 : Int8)) (fl + 1) 128) 128 (8 * tot) 8)))), (a3, .inl (k 2, 80, .inr (.inl f2))), (to, .inl (k 0, n0, .inl (by_ (whB (cmpW S (lnB (zf (va_up b fl (-128 : Int8)) (fl + 1) 128) 128 (8 * tot) 8)) 8 g first nh))))] H := hP
    have hD : va_D A [(h, .inr (3, [.ref a1, .ref a2, .int (nI nh), .ref ts, .int (nI 8), .int (nI 0), .long tot, .int (bc + 1), .ref a3])), (a1, .inl (k 2, 8, .inr (.inl (cmpW S (lnB (zf (va_up b fl (-128 : Int8)) (fl + 1) 128) 128 (8 * tot) 8))))), (a2, .inl (k 0, 128, .inl (by_ (lnB (zf (va_up b fl (-128 : Int8)) (fl + 1) 128) 128 (8 * tot) 8)))), (a3, .inl (k 2, 80, .inr (.inl f2))), (to, .inl (k 0, n0, .inl (by_ (whB (cmpW S (lnB (zf (va_up b fl (-128 : Int8)) (fl + 1) 128) 128 (8 * tot) 8)) 8 g first nh))))] := hD
    have eC : (cmpW S (lnB (zf (va_up b fl (-128 : Int8)) (fl + 1) 128) 128 (8 * tot) 8), lnB (zf (va_up b fl (-128 : Int8)) (fl + 1) 128) 128 (8 * tot) 8, 0, bc + 1) = clS 128 8 cmpW (S, b, fl, bc) tot := (clS_lo c_37).symm
    refine W.widen (k := 0) (n := 0) (Nat.le_refl _) (Nat.le_refl _) ?_
    exact W.vret hx hb hr (fun t ht hW => ⟨⟨((cmpW S (lnB (zf (va_up b fl (-128 : Int8)) (fl + 1) 128) 128 (8 * tot) 8), lnB (zf (va_up b fl (-128 : Int8)) (fl + 1) 128) 128 (8 * tot) 8, 0, bc + 1), f2), rfl, eC, by rw [ht]; exact hP, hD⟩, hS.F ht⟩) hS.2.2 dSh_close_66
  · skip
    refine lv_aload_n hx hb dSh_close_40 rfl (lv_at hl 0 rfl) ?_
    refine rc_v (wr := [(to, .inl (k 0, n0, .inl (by_ g)))]) (va_runU (As := []) (rest := []) ⟨hx, hb, hml, hown, hts⟩ (c_W_zeros l D k tb H.size h a1 a2 a3 ts nh (fl + 1) tot bc S (va_up b fl (-128 : Int8)) f (by omega)) (va_cwU 0 hts (gU gm_395 gm_675 gm_20 gm_396 gm_52 gm_397) rfl rfl rfl rfl (by decide +kernel) ⟨Nat.le_of_ble_eq_true rfl, Nat.le_of_ble_eq_true rfl⟩) (cP_V hP hD hK hG hS hA [0, 1, 2, 3] (by decide) rfl (ci := 3) (q0 := 0) rfl rfl) rfl rfl hl.1 rfl (lv_room (Nat.le_of_ble_eq_true rfl)) dSh_close_41 ⟨Nat.le_of_ble_eq_true rfl, Nat.le_of_ble_eq_true rfl⟩) hS hA hP hD [0, 1, 2, 3] [4] rfl rfl (by decide) (by decide) (fun u H locs hw hP hD hS => ?_)
    have hP : va_P D vwCl [(to, .inl (k 0, n0, .inl (by_ g))), (h, .inr (3, [.ref a1, .ref a2, .int (nI nh), .ref ts, .int (nI 8), .int (nI (fl + 1)), .long tot, .int bc, .ref a3])), (a1, .inl (k 2, 8, .inr (.inl S))), (a2, .inl (k 0, 128, .inl (by_ (zf (va_up b fl (-128 : Int8)) (fl + 1) 128)))), (a3, .inl (k 2, 80, .inr (.inl f)))] H := hP
    have hD : va_D A [(to, .inl (k 0, n0, .inl (by_ g))), (h, .inr (3, [.ref a1, .ref a2, .int (nI nh), .ref ts, .int (nI 8), .int (nI (fl + 1)), .long tot, .int bc, .ref a3])), (a1, .inl (k 2, 8, .inr (.inl S))), (a2, .inl (k 0, 128, .inl (by_ (zf (va_up b fl (-128 : Int8)) (fl + 1) 128)))), (a3, .inl (k 2, 80, .inr (.inl f)))] := hD
    refine lv_aload_n hx hb dSh_close_44 rfl (lv_at hl 0 rfl) ?_
    refine rc_v (wr := [(to, .inl (k 0, n0, .inl (by_ g)))]) (va_runU (As := []) (rest := []) ⟨hx, hb, hml, hown, hts⟩ (c_W_goOver l D k tb H.size h a1 a2 a3 ts nh (fl + 1) tot bc S (zf (va_up b fl (-128 : Int8)) (fl + 1) 128) f) (va_cwU 0 hts (gU gm_335 gm_672 gm_13 gm_336 gm_52 gm_337) rfl rfl rfl rfl (by decide +kernel) ⟨Nat.le_of_ble_eq_true rfl, Nat.le_of_ble_eq_true rfl⟩) (cP_V hP hD hK hG hS hA [1, 2, 3, 4] (by decide) rfl (ci := 3) (q0 := 1) rfl rfl) rfl rfl hl.1 rfl (lv_room (Nat.le_of_ble_eq_true rfl)) dSh_close_45 ⟨Nat.le_of_ble_eq_true rfl, Nat.le_of_ble_eq_true rfl⟩) hS hA hP hD [1, 2, 3, 4] [0] rfl rfl (by decide) (by decide) (fun f1 H locs hw hP hD hS => ?_)
    have hP : va_P D vwCl [(to, .inl (k 0, n0, .inl (by_ g))), (h, .inr (3, [.ref a1, .ref a2, .int (nI nh), .ref ts, .int (nI 8), .int (nI 0), .long tot, .int (bc + 1), .ref a3])), (a1, .inl (k 2, 8, .inr (.inl (cmpW S (zf (va_up b fl (-128 : Int8)) (fl + 1) 128))))), (a2, .inl (k 0, 128, .inl (by_ (zf (va_up b fl (-128 : Int8)) (fl + 1) 128)))), (a3, .inl (k 2, 80, .inr (.inl f1)))] H := hP
    have hD : va_D A [(to, .inl (k 0, n0, .inl (by_ g))), (h, .inr (3, [.ref a1, .ref a2, .int (nI nh), .ref ts, .int (nI 8), .int (nI 0), .long tot, .int (bc + 1), .ref a3])), (a1, .inl (k 2, 8, .inr (.inl (cmpW S (zf (va_up b fl (-128 : Int8)) (fl + 1) 128))))), (a2, .inl (k 0, 128, .inl (by_ (zf (va_up b fl (-128 : Int8)) (fl + 1) 128)))), (a3, .inl (k 2, 80, .inr (.inl f1)))] := hD
    refine lv_aload_n hx hb dSh_close_48 rfl (lv_at hl 0 rfl) ?_
    refine rc_v (wr := [(to, .inl (k 0, n0, .inl (by_ g)))]) (va_runU (As := []) (rest := []) ⟨hx, hb, hml, hown, hts⟩ (c_W_zeros l D k tb H.size h a1 a2 a3 ts nh 0 tot (bc + 1) (cmpW S (zf (va_up b fl (-128 : Int8)) (fl + 1) 128)) (zf (va_up b fl (-128 : Int8)) (fl + 1) 128) f1 (by omega)) (va_cwU 0 hts (gU gm_395 gm_675 gm_20 gm_396 gm_52 gm_397) rfl rfl rfl rfl (by decide +kernel) ⟨Nat.le_of_ble_eq_true rfl, Nat.le_of_ble_eq_true rfl⟩) (cP_V hP hD hK hG hS hA [1, 2, 3, 4] (by decide) rfl (ci := 3) (q0 := 1) rfl rfl) rfl rfl hl.1 rfl (lv_room (Nat.le_of_ble_eq_true rfl)) dSh_close_49 ⟨Nat.le_of_ble_eq_true rfl, Nat.le_of_ble_eq_true rfl⟩) hS hA hP hD [1, 2, 3, 4] [0] rfl rfl (by decide) (by decide) (fun u H locs hw hP hD hS => ?_)
    have hP : va_P D vwCl [(to, .inl (k 0, n0, .inl (by_ g))), (h, .inr (3, [.ref a1, .ref a2, .int (nI nh), .ref ts, .int (nI 8), .int (nI 0), .long tot, .int (bc + 1), .ref a3])), (a1, .inl (k 2, 8, .inr (.inl (cmpW S (zf (va_up b fl (-128 : Int8)) (fl + 1) 128))))), (a2, .inl (k 0, 128, .inl (by_ (zf (zf (va_up b fl (-128 : Int8)) (fl + 1) 128) 0 128)))), (a3, .inl (k 2, 80, .inr (.inl f1)))] H := hP
    have hD : va_D A [(to, .inl (k 0, n0, .inl (by_ g))), (h, .inr (3, [.ref a1, .ref a2, .int (nI nh), .ref ts, .int (nI 8), .int (nI 0), .long tot, .int (bc + 1), .ref a3])), (a1, .inl (k 2, 8, .inr (.inl (cmpW S (zf (va_up b fl (-128 : Int8)) (fl + 1) 128))))), (a2, .inl (k 0, 128, .inl (by_ (zf (zf (va_up b fl (-128 : Int8)) (fl + 1) 128) 0 128)))), (a3, .inl (k 2, 80, .inr (.inl f1)))] := hD
    refine lv_aload_n hx hb dSh_close_52 rfl (lv_at hl 0 rfl) ?_
    refine rc_v (wr := [(to, .inl (k 0, n0, .inl (by_ g)))]) (va_runU (As := []) (rest := []) ⟨hx, hb, hml, hown, hts⟩ (c_W_bits l D k tb H.size h a1 a2 a3 ts nh 0 tot (bc + 1) (cmpW S (zf (va_up b fl (-128 : Int8)) (fl + 1) 128)) (zf (zf (va_up b fl (-128 : Int8)) (fl + 1) 128) 0 128) f1) (va_cwU 0 hts (gU gm_423 gm_676 gm_22 gm_424 gm_52 gm_425) rfl rfl rfl rfl (by decide +kernel) ⟨Nat.le_of_ble_eq_true rfl, Nat.le_of_ble_eq_true rfl⟩) (cP_V hP hD hK hG hS hA [1, 2, 3, 4] (by decide) rfl (ci := 3) (q0 := 1) rfl rfl) rfl rfl hl.1 rfl (lv_room (Nat.le_of_ble_eq_true rfl)) dSh_close_53 ⟨Nat.le_of_ble_eq_true rfl, Nat.le_of_ble_eq_true rfl⟩) hS hA hP hD [1, 2, 3, 4] [0] rfl rfl (by decide) (by decide) (fun u H locs hw hP hD hS => ?_)
    have hP : va_P D vwCl [(to, .inl (k 0, n0, .inl (by_ g))), (h, .inr (3, [.ref a1, .ref a2, .int (nI nh), .ref ts, .int (nI 8), .int (nI 0), .long tot, .int (bc + 1), .ref a3])), (a1, .inl (k 2, 8, .inr (.inl (cmpW S (zf (va_up b fl (-128 : Int8)) (fl + 1) 128))))), (a2, .inl (k 0, 128, .inl (by_ (lnB (zf (zf (va_up b fl (-128 : Int8)) (fl + 1) 128) 0 128) 128 (8 * tot) 8)))), (a3, .inl (k 2, 80, .inr (.inl f1)))] H := hP
    have hD : va_D A [(to, .inl (k 0, n0, .inl (by_ g))), (h, .inr (3, [.ref a1, .ref a2, .int (nI nh), .ref ts, .int (nI 8), .int (nI 0), .long tot, .int (bc + 1), .ref a3])), (a1, .inl (k 2, 8, .inr (.inl (cmpW S (zf (va_up b fl (-128 : Int8)) (fl + 1) 128))))), (a2, .inl (k 0, 128, .inl (by_ (lnB (zf (zf (va_up b fl (-128 : Int8)) (fl + 1) 128) 0 128) 128 (8 * tot) 8)))), (a3, .inl (k 2, 80, .inr (.inl f1)))] := hD
    refine lv_aload_n hx hb dSh_close_56 rfl (lv_at hl 0 rfl) ?_
    refine rc_v (wr := [(to, .inl (k 0, n0, .inl (by_ g)))]) (va_runU (As := []) (rest := []) ⟨hx, hb, hml, hown, hts⟩ (c_W_goOver l D k tb H.size h a1 a2 a3 ts nh 0 tot (bc + 1) (cmpW S (zf (va_up b fl (-128 : Int8)) (fl + 1) 128)) (lnB (zf (zf (va_up b fl (-128 : Int8)) (fl + 1) 128) 0 128) 128 (8 * tot) 8) f1) (va_cwU 0 hts (gU gm_335 gm_672 gm_13 gm_336 gm_52 gm_337) rfl rfl rfl rfl (by decide +kernel) ⟨Nat.le_of_ble_eq_true rfl, Nat.le_of_ble_eq_true rfl⟩) (cP_V hP hD hK hG hS hA [1, 2, 3, 4] (by decide) rfl (ci := 3) (q0 := 1) rfl rfl) rfl rfl hl.1 rfl (lv_room (Nat.le_of_ble_eq_true rfl)) dSh_close_57 ⟨Nat.le_of_ble_eq_true rfl, Nat.le_of_ble_eq_true rfl⟩) hS hA hP hD [1, 2, 3, 4] [0] rfl rfl (by decide) (by decide) (fun f2 H locs hw hP hD hS => ?_)
    have hP : va_P D vwCl [(to, .inl (k 0, n0, .inl (by_ g))), (h, .inr (3, [.ref a1, .ref a2, .int (nI nh), .ref ts, .int (nI 8), .int (nI 0), .long tot, .int ((bc + 1) + 1), .ref a3])), (a1, .inl (k 2, 8, .inr (.inl (cmpW (cmpW S (zf (va_up b fl (-128 : Int8)) (fl + 1) 128)) (lnB (zf (zf (va_up b fl (-128 : Int8)) (fl + 1) 128) 0 128) 128 (8 * tot) 8))))), (a2, .inl (k 0, 128, .inl (by_ (lnB (zf (zf (va_up b fl (-128 : Int8)) (fl + 1) 128) 0 128) 128 (8 * tot) 8)))), (a3, .inl (k 2, 80, .inr (.inl f2)))] H := hP
    have hD : va_D A [(to, .inl (k 0, n0, .inl (by_ g))), (h, .inr (3, [.ref a1, .ref a2, .int (nI nh), .ref ts, .int (nI 8), .int (nI 0), .long tot, .int ((bc + 1) + 1), .ref a3])), (a1, .inl (k 2, 8, .inr (.inl (cmpW (cmpW S (zf (va_up b fl (-128 : Int8)) (fl + 1) 128)) (lnB (zf (zf (va_up b fl (-128 : Int8)) (fl + 1) 128) 0 128) 128 (8 * tot) 8))))), (a2, .inl (k 0, 128, .inl (by_ (lnB (zf (zf (va_up b fl (-128 : Int8)) (fl + 1) 128) 0 128) 128 (8 * tot) 8)))), (a3, .inl (k 2, 80, .inr (.inl f2)))] := hD
    refine lv_aload_n hx hb dSh_close_60 rfl (lv_at hl 0 rfl) ?_
    refine lv_aload_n hx hb dSh_close_61 rfl (lv_at hl 1 rfl) ?_
    refine lv_iload_n hx hb dSh_close_62 rfl (lv_at hl 2 rfl) ?_
    refine rc_v (wr := []) (va_runU (As := [.ref to, .int (nI first)]) (rest := []) ⟨hx, hb, hml, hown, hts⟩ (c_W_hash l D k tb H.size h a1 a2 a3 ts nh 0 tot ((bc + 1) + 1) (cmpW (cmpW S (zf (va_up b fl (-128 : Int8)) (fl + 1) 128)) (lnB (zf (zf (va_up b fl (-128 : Int8)) (fl + 1) 128) 0 128) 128 (8 * tot) 8)) (lnB (zf (zf (va_up b fl (-128 : Int8)) (fl + 1) 128) 0 128) 128 (8 * tot) 8) f2 to n0 first g (by omega) (by omega) (by omega)) (va_cwU 2 hts (gU gm_427 gm_677 gm_24 gm_428 gm_52 gm_429) rfl rfl rfl rfl (by decide +kernel) ⟨Nat.le_of_ble_eq_true rfl, Nat.le_of_ble_eq_true rfl⟩) (cP_V hP hD hK hG hS hA [1, 2, 3, 4, 0] (by decide) rfl (ci := 3) (q0 := 1) rfl rfl) rfl rfl hl.1 rfl (lv_room (Nat.le_of_ble_eq_true rfl)) dSh_close_63 ⟨Nat.le_of_ble_eq_true rfl, Nat.le_of_ble_eq_true rfl⟩) hS hA hP hD [1, 2, 3, 4, 0] [] rfl rfl (by decide) (by decide) (fun u H locs hw hP hD hS => ?_)
    have hP : va_P D vwCl [(h, .inr (3, [.ref a1, .ref a2, .int (nI nh), .ref ts, .int (nI 8), .int (nI 0), .long tot, .int ((bc + 1) + 1), .ref a3])), (a1, .inl (k 2, 8, .inr (.inl (cmpW (cmpW S (zf (va_up b fl (-128 : Int8)) (fl + 1) 128)) (lnB (zf (zf (va_up b fl (-128 : Int8)) (fl + 1) 128) 0 128) 128 (8 * tot) 8))))), (a2, .inl (k 0, 128, .inl (by_ (lnB (zf (zf (va_up b fl (-128 : Int8)) (fl + 1) 128) 0 128) 128 (8 * tot) 8)))), (a3, .inl (k 2, 80, .inr (.inl f2))), (to, .inl (k 0, n0, .inl (by_ (whB (cmpW (cmpW S (zf (va_up b fl (-128 : Int8)) (fl + 1) 128)) (lnB (zf (zf (va_up b fl (-128 : Int8)) (fl + 1) 128) 0 128) 128 (8 * tot) 8)) 8 g first nh))))] H := hP
    have hD : va_D A [(h, .inr (3, [.ref a1, .ref a2, .int (nI nh), .ref ts, .int (nI 8), .int (nI 0), .long tot, .int ((bc + 1) + 1), .ref a3])), (a1, .inl (k 2, 8, .inr (.inl (cmpW (cmpW S (zf (va_up b fl (-128 : Int8)) (fl + 1) 128)) (lnB (zf (zf (va_up b fl (-128 : Int8)) (fl + 1) 128) 0 128) 128 (8 * tot) 8))))), (a2, .inl (k 0, 128, .inl (by_ (lnB (zf (zf (va_up b fl (-128 : Int8)) (fl + 1) 128) 0 128) 128 (8 * tot) 8)))), (a3, .inl (k 2, 80, .inr (.inl f2))), (to, .inl (k 0, n0, .inl (by_ (whB (cmpW (cmpW S (zf (va_up b fl (-128 : Int8)) (fl + 1) 128)) (lnB (zf (zf (va_up b fl (-128 : Int8)) (fl + 1) 128) 0 128) 128 (8 * tot) 8)) 8 g first nh))))] := hD
    have eC : (cmpW (cmpW S (zf (va_up b fl (-128 : Int8)) (fl + 1) 128)) (lnB (zf (zf (va_up b fl (-128 : Int8)) (fl + 1) 128) 0 128) 128 (8 * tot) 8), lnB (zf (zf (va_up b fl (-128 : Int8)) (fl + 1) 128) 0 128) 128 (8 * tot) 8, 0, (bc + 1) + 1) = clS 128 8 cmpW (S, b, fl, bc) tot := (clS_hi c_37).symm
    refine W.widen (k := 0) (n := 0) (Nat.le_refl _) (Nat.le_refl _) ?_
    exact W.vret hx hb hr (fun t ht hW => ⟨⟨((cmpW (cmpW S (zf (va_up b fl (-128 : Int8)) (fl + 1) 128)) (lnB (zf (zf (va_up b fl (-128 : Int8)) (fl + 1) 128) 0 128) 128 (8 * tot) 8), lnB (zf (zf (va_up b fl (-128 : Int8)) (fl + 1) 128) 0 128) 128 (8 * tot) 8, 0, (bc + 1) + 1), f2), rfl, eC, by rw [ht]; exact hP, hD⟩, hS.F ht⟩) hS.2.2 dSh_close_66
set_option maxHeartbeats 600000 in
set_option maxRecDepth 100000 in
theorem c_W_resumeT (l : Launch) (D : va_G) (k : Nat → ClassId) (tb : Nat → Nat) (sz : Nat) (h a1 a2 a3 j nh fl dn : Nat) (tot : Int64) (bc : Int32) (S : Nat → Int64) (hj : j < 3) : Met l ySh_resume wSh_resume ({ frames := 1, cells := 0, slots := 0, locals := 60 }) (cP D k tb [(h, .inr (3, [.ref a1, .ref a2, .int (nI nh), .ref (tb j), .int (nI 8), .int (nI fl), .long tot, .int bc, .ref a3])), (a1, .inl (k 2, 8, .inr (.inl S)))] sz [.ref h, .ref (tb j), .int (nI dn)]) (va_Qv (fun (u : Unit) => True) (fun (u : Unit) (t : State) => va_P D vwCl [(h, .inr (3, [.ref a1, .ref a2, .int (nI nh), .ref (tb j), .int (nI 8), .int (nI 0), .long ((nI dn).toInt64), .int bc, .ref a3])), (a1, .inl (k 2, 8, .inr (.inl (iT j))))] t.heap ∧ va_D (va_A [(h, .inr (3, [.ref a1, .ref a2, .int (nI nh), .ref (tb j), .int (nI 8), .int (nI fl), .long tot, .int bc, .ref a3])), (a1, .inl (k 2, 8, .inr (.inl S)))] sz) [(h, .inr (3, [.ref a1, .ref a2, .int (nI nh), .ref (tb j), .int (nI 8), .int (nI 0), .long ((nI dn).toInt64), .int bc, .ref a3])), (a1, .inl (k 2, 8, .inr (.inl (iT j))))]) (va_A [(h, .inr (3, [.ref a1, .ref a2, .int (nI nh), .ref (tb j), .int (nI 8), .int (nI fl), .long tot, .int bc, .ref a3])), (a1, .inl (k 2, 8, .inr (.inl S)))] sz)) (0) (0) (va_A [(h, .inr (3, [.ref a1, .ref a2, .int (nI nh), .ref (tb j), .int (nI 8), .int (nI fl), .long tot, .int bc, .ref a3])), (a1, .inl (k 2, 8, .inr (.inl S)))] sz) := by
  refine Met.ofW (cc := cSh_resume) (maxL := 3) (ret := none) (by decide) rfl ?_
  intro p e s m args below meth c s₁ B hml hv
  obtain ⟨rfl, hsz, hP, hK, hD0, hG⟩ := hv
  have hx := B.exec
  have hb := B.bytes
  have hr := B.returns
  have hts : ∀ w ∈ GT, w.before _ s = true := fun w h => atoms_spec (ws := wSh_resume) B.pre w (List.mem_cons_of_mem _ h)
  have hown : s.vm.findClass R_Sh = some m.cls := findClass_of_methodNamed B.named
  have hlocks := B.notSynchronized
  subst hsz
  have hD := hD0.self (sz := s.heap.size)
  generalize hAe : va_A [(h, .inr (3, [.ref a1, .ref a2, .int (nI nh), .ref (tb j), .int (nI 8), .int (nI fl), .long tot, .int bc, .ref a3])), (a1, .inl (k 2, 8, .inr (.inl S)))] s.heap.size = A at hD hG ⊢
  have hA : ∀ q : Nat, s.heap.size ≤ q → A q := fun q h => by rw [← hAe]; exact Or.inr h
  have hl := lv_entry ([.ref h, .ref (tb j), .int (nI dn)]) (n := 3) (Nat.le_of_ble_eq_true rfl)
  rw [lg_entry_eq]
  generalize (lg_sl ([.ref h, .ref (tb j), .int (nI dn)]) ++ List.replicate (3 - (lg_sl ([.ref h, .ref (tb j), .int (nI dn)])).length) Slot.unset).toArray = ls at hl ⊢
  have hl : lv_has ls 3 [(0, .ref h), (1, .ref (tb j)), (2, .int (nI dn))] := hl
  refine cw_start (A := A) hP (fun H locs hP hS => ?_)
  refine lv_aload_n hx hb dSh_resume_0 rfl (lv_at hl 1 rfl) ?_
  refine lv_iconst (v := nI 0) hx hb dSh_resume_1 (by decide) ?_
  refine lv_aload_n hx hb dSh_resume_2 rfl (lv_at hl 0 rfl) ?_
  refine va_get (D := D) (ci := 3) (v := .ref a1) (C := R_Ws) (T := T_Ws) (N := 9) hx hb hts in_Ws hown hK hP 0 rfl rfl 0 (by decide) (hts _ gm_100) (fun _ h9 => h9) rfl dSh_resume_3 ?_
  refine lv_iconst (v := nI 0) hx hb dSh_resume_6 (by decide) ?_
  refine lv_aload_n hx hb dSh_resume_7 rfl (lv_at hl 0 rfl) ?_
  refine va_get (D := D) (ci := 3) (v := .ref a1) (C := R_Ws) (T := T_Ws) (N := 9) hx hb hts in_Ws hown hK hP 0 rfl rfl 0 (by decide) (hts _ gm_100) (fun _ h9 => h9) rfl dSh_resume_8 ?_
  refine ra_len hx hb hK hP 1 2 rfl rfl dSh_resume_11 ?_
  refine rt_cpl hx hb (hml.trans hl.1.symm) hown (hts _ gm_96) (hts _ gm_98) (hts _ gm_97) (hts _ gm_54) hK hP hD hS (gOk.tab hG hj) 1 2 rfl rfl (by omega) (by omega) (by omega) (by omega) (Nat.le_of_ble_eq_true rfl) (Nat.le_of_ble_eq_true rfl) dSh_resume_12 (fun H locs hP hD hS => ?_)
  have hP : va_P D vwCl [(h, .inr (3, [.ref a1, .ref a2, .int (nI nh), .ref (tb j), .int (nI 8), .int (nI fl), .long tot, .int bc, .ref a3])), (a1, .inl (k 2, 8, .inr (.inl (va_cpy (iT j) S 0 0 8))))] H := hP
  have hD : va_D A [(h, .inr (3, [.ref a1, .ref a2, .int (nI nh), .ref (tb j), .int (nI 8), .int (nI fl), .long tot, .int bc, .ref a3])), (a1, .inl (k 2, 8, .inr (.inl (va_cpy (iT j) S 0 0 8))))] := hD
  obtain ⟨hP, hD⟩ := wd_put hP hD 1 (y := (8, .inr (.inl (iT j)))) rfl (wc_l (cpy_all _ _ 8) _)
  have hP : va_P D vwCl [(h, .inr (3, [.ref a1, .ref a2, .int (nI nh), .ref (tb j), .int (nI 8), .int (nI fl), .long tot, .int bc, .ref a3])), (a1, .inl (k 2, 8, .inr (.inl (iT j))))] H := hP
  have hD : va_D A [(h, .inr (3, [.ref a1, .ref a2, .int (nI nh), .ref (tb j), .int (nI 8), .int (nI fl), .long tot, .int bc, .ref a3])), (a1, .inl (k 2, 8, .inr (.inl (iT j))))] := hD
  refine lv_aload_n hx hb dSh_resume_15 rfl (lv_at hl 0 rfl) ?_
  refine lv_iconst (v := nI 0) hx hb dSh_resume_16 (by decide) ?_
  refine va_put (D := D) (ci := 3) (v := .int (nI 0)) (ty := .int) (C := R_Ws) (T := T_Ws) (N := 9) hx hb hts in_Ws t_Ws tk_Ws nm_Ws hown hK hP hD hS 0 rfl rfl 5 (by decide) (hts _ gm_117) (fun _ h9 => h9) rfl (by decide +kernel) rfl rfl (Nat.le_of_ble_eq_true rfl) dSh_resume_17 (fun H locs hP hD hS => ?_)
  have hP : va_P D vwCl [(h, .inr (3, [.ref a1, .ref a2, .int (nI nh), .ref (tb j), .int (nI 8), .int (nI 0), .long tot, .int bc, .ref a3])), (a1, .inl (k 2, 8, .inr (.inl (iT j))))] H := hP
  have hD : va_D A [(h, .inr (3, [.ref a1, .ref a2, .int (nI nh), .ref (tb j), .int (nI 8), .int (nI 0), .long tot, .int bc, .ref a3])), (a1, .inl (k 2, 8, .inr (.inl (iT j))))] := hD
  refine lv_aload_n hx hb dSh_resume_20 rfl (lv_at hl 0 rfl) ?_
  refine lv_iload_n hx hb dSh_resume_21 rfl (lv_at hl 2 rfl) ?_
  refine lv_i2l (v := (nI dn).toInt64) hx hb dSh_resume_22 rfl ?_
  refine va_put (D := D) (ci := 3) (v := .long ((nI dn).toInt64)) (ty := .long) (C := R_Ws) (T := T_Ws) (N := 9) hx hb hts in_Ws t_Ws tk_Ws nm_Ws hown hK hP hD hS 0 rfl rfl 6 (by decide) (hts _ gm_118) (fun _ h9 => h9) rfl (by decide +kernel) rfl rfl (Nat.le_of_ble_eq_true rfl) dSh_resume_23 (fun H locs hP hD hS => ?_)
  have hP : va_P D vwCl [(h, .inr (3, [.ref a1, .ref a2, .int (nI nh), .ref (tb j), .int (nI 8), .int (nI 0), .long ((nI dn).toInt64), .int bc, .ref a3])), (a1, .inl (k 2, 8, .inr (.inl (iT j))))] H := hP
  have hD : va_D A [(h, .inr (3, [.ref a1, .ref a2, .int (nI nh), .ref (tb j), .int (nI 8), .int (nI 0), .long ((nI dn).toInt64), .int bc, .ref a3])), (a1, .inl (k 2, 8, .inr (.inl (iT j))))] := hD
  refine W.widen (k := 0) (n := 0) (Nat.le_refl _) (Nat.le_refl _) ?_
  exact W.vret hx hb hr (fun t ht hW => ⟨⟨(), rfl, trivial, by rw [ht]; exact hP, hD⟩, hS.F ht⟩) hS.2.2 dSh_resume_26
set_option maxHeartbeats 600000 in
set_option maxRecDepth 100000 in
theorem c_W_resumeW (l : Launch) (D : va_G) (k : Nat → ClassId) (tb : Nat → Nat) (sz : Nat) (h a1 a2 a3 ts fr nh fl dn : Nat) (tot : Int64) (bc : Int32) (S : Nat → Int64) (g : Nat → Int64) : Met l ySh_resume wSh_resume ({ frames := 1, cells := 0, slots := 0, locals := 60 }) (cP D k tb [(h, .inr (3, [.ref a1, .ref a2, .int (nI nh), .ref ts, .int (nI 8), .int (nI fl), .long tot, .int bc, .ref a3])), (a1, .inl (k 2, 8, .inr (.inl S))), (fr, .inl (k 2, 8, .inr (.inl g)))] sz [.ref h, .ref fr, .int (nI dn)]) (va_Qv (fun (u : Unit) => True) (fun (u : Unit) (t : State) => va_P D vwCl [(h, .inr (3, [.ref a1, .ref a2, .int (nI nh), .ref ts, .int (nI 8), .int (nI 0), .long ((nI dn).toInt64), .int bc, .ref a3])), (a1, .inl (k 2, 8, .inr (.inl g))), (fr, .inl (k 2, 8, .inr (.inl g)))] t.heap ∧ va_D (va_A [(h, .inr (3, [.ref a1, .ref a2, .int (nI nh), .ref ts, .int (nI 8), .int (nI fl), .long tot, .int bc, .ref a3])), (a1, .inl (k 2, 8, .inr (.inl S))), (fr, .inl (k 2, 8, .inr (.inl g)))] sz) [(h, .inr (3, [.ref a1, .ref a2, .int (nI nh), .ref ts, .int (nI 8), .int (nI 0), .long ((nI dn).toInt64), .int bc, .ref a3])), (a1, .inl (k 2, 8, .inr (.inl g))), (fr, .inl (k 2, 8, .inr (.inl g)))]) (va_A [(h, .inr (3, [.ref a1, .ref a2, .int (nI nh), .ref ts, .int (nI 8), .int (nI fl), .long tot, .int bc, .ref a3])), (a1, .inl (k 2, 8, .inr (.inl S))), (fr, .inl (k 2, 8, .inr (.inl g)))] sz)) (0) (0) (va_A [(h, .inr (3, [.ref a1, .ref a2, .int (nI nh), .ref ts, .int (nI 8), .int (nI fl), .long tot, .int bc, .ref a3])), (a1, .inl (k 2, 8, .inr (.inl S))), (fr, .inl (k 2, 8, .inr (.inl g)))] sz) := by
  refine Met.ofW (cc := cSh_resume) (maxL := 3) (ret := none) (by decide) rfl ?_
  intro p e s m args below meth c s₁ B hml hv
  obtain ⟨rfl, hsz, hP, hK, hD0, hG⟩ := hv
  have hx := B.exec
  have hb := B.bytes
  have hr := B.returns
  have hts : ∀ w ∈ GT, w.before _ s = true := fun w h => atoms_spec (ws := wSh_resume) B.pre w (List.mem_cons_of_mem _ h)
  have hown : s.vm.findClass R_Sh = some m.cls := findClass_of_methodNamed B.named
  have hlocks := B.notSynchronized
  subst hsz
  have hD := hD0.self (sz := s.heap.size)
  generalize hAe : va_A [(h, .inr (3, [.ref a1, .ref a2, .int (nI nh), .ref ts, .int (nI 8), .int (nI fl), .long tot, .int bc, .ref a3])), (a1, .inl (k 2, 8, .inr (.inl S))), (fr, .inl (k 2, 8, .inr (.inl g)))] s.heap.size = A at hD hG ⊢
  have hA : ∀ q : Nat, s.heap.size ≤ q → A q := fun q h => by rw [← hAe]; exact Or.inr h
  have hl := lv_entry ([.ref h, .ref fr, .int (nI dn)]) (n := 3) (Nat.le_of_ble_eq_true rfl)
  rw [lg_entry_eq]
  generalize (lg_sl ([.ref h, .ref fr, .int (nI dn)]) ++ List.replicate (3 - (lg_sl ([.ref h, .ref fr, .int (nI dn)])).length) Slot.unset).toArray = ls at hl ⊢
  have hl : lv_has ls 3 [(0, .ref h), (1, .ref fr), (2, .int (nI dn))] := hl
  refine cw_start (A := A) hP (fun H locs hP hS => ?_)
  refine lv_aload_n hx hb dSh_resume_0 rfl (lv_at hl 1 rfl) ?_
  refine lv_iconst (v := nI 0) hx hb dSh_resume_1 (by decide) ?_
  refine lv_aload_n hx hb dSh_resume_2 rfl (lv_at hl 0 rfl) ?_
  refine va_get (D := D) (ci := 3) (v := .ref a1) (C := R_Ws) (T := T_Ws) (N := 9) hx hb hts in_Ws hown hK hP 0 rfl rfl 0 (by decide) (hts _ gm_100) (fun _ h9 => h9) rfl dSh_resume_3 ?_
  refine lv_iconst (v := nI 0) hx hb dSh_resume_6 (by decide) ?_
  refine lv_aload_n hx hb dSh_resume_7 rfl (lv_at hl 0 rfl) ?_
  refine va_get (D := D) (ci := 3) (v := .ref a1) (C := R_Ws) (T := T_Ws) (N := 9) hx hb hts in_Ws hown hK hP 0 rfl rfl 0 (by decide) (hts _ gm_100) (fun _ h9 => h9) rfl dSh_resume_8 ?_
  refine ra_len hx hb hK hP 1 2 rfl rfl dSh_resume_11 ?_
  refine rl_cp hx hb (hml.trans hl.1.symm) hown (hts _ gm_96) (hts _ gm_98) (hts _ gm_97) (hts _ gm_54) hK hP hD hS 2 1 2 2 rfl rfl rfl rfl (by omega) (by omega) (by omega) (by omega) (Nat.le_of_ble_eq_true rfl) (Nat.le_of_ble_eq_true rfl) dSh_resume_12 (fun H locs hP hD hS => ?_)
  have hP : va_P D vwCl [(h, .inr (3, [.ref a1, .ref a2, .int (nI nh), .ref ts, .int (nI 8), .int (nI fl), .long tot, .int bc, .ref a3])), (a1, .inl (k 2, 8, .inr (.inl (va_cpy g S 0 0 8)))), (fr, .inl (k 2, 8, .inr (.inl g)))] H := hP
  have hD : va_D A [(h, .inr (3, [.ref a1, .ref a2, .int (nI nh), .ref ts, .int (nI 8), .int (nI fl), .long tot, .int bc, .ref a3])), (a1, .inl (k 2, 8, .inr (.inl (va_cpy g S 0 0 8)))), (fr, .inl (k 2, 8, .inr (.inl g)))] := hD
  obtain ⟨hP, hD⟩ := wd_put hP hD 1 (y := (8, .inr (.inl g))) rfl (wc_l (cpy_all _ _ 8) _)
  have hP : va_P D vwCl [(h, .inr (3, [.ref a1, .ref a2, .int (nI nh), .ref ts, .int (nI 8), .int (nI fl), .long tot, .int bc, .ref a3])), (a1, .inl (k 2, 8, .inr (.inl g))), (fr, .inl (k 2, 8, .inr (.inl g)))] H := hP
  have hD : va_D A [(h, .inr (3, [.ref a1, .ref a2, .int (nI nh), .ref ts, .int (nI 8), .int (nI fl), .long tot, .int bc, .ref a3])), (a1, .inl (k 2, 8, .inr (.inl g))), (fr, .inl (k 2, 8, .inr (.inl g)))] := hD
  refine lv_aload_n hx hb dSh_resume_15 rfl (lv_at hl 0 rfl) ?_
  refine lv_iconst (v := nI 0) hx hb dSh_resume_16 (by decide) ?_
  refine va_put (D := D) (ci := 3) (v := .int (nI 0)) (ty := .int) (C := R_Ws) (T := T_Ws) (N := 9) hx hb hts in_Ws t_Ws tk_Ws nm_Ws hown hK hP hD hS 0 rfl rfl 5 (by decide) (hts _ gm_117) (fun _ h9 => h9) rfl (by decide +kernel) rfl rfl (Nat.le_of_ble_eq_true rfl) dSh_resume_17 (fun H locs hP hD hS => ?_)
  have hP : va_P D vwCl [(h, .inr (3, [.ref a1, .ref a2, .int (nI nh), .ref ts, .int (nI 8), .int (nI 0), .long tot, .int bc, .ref a3])), (a1, .inl (k 2, 8, .inr (.inl g))), (fr, .inl (k 2, 8, .inr (.inl g)))] H := hP
  have hD : va_D A [(h, .inr (3, [.ref a1, .ref a2, .int (nI nh), .ref ts, .int (nI 8), .int (nI 0), .long tot, .int bc, .ref a3])), (a1, .inl (k 2, 8, .inr (.inl g))), (fr, .inl (k 2, 8, .inr (.inl g)))] := hD
  refine lv_aload_n hx hb dSh_resume_20 rfl (lv_at hl 0 rfl) ?_
  refine lv_iload_n hx hb dSh_resume_21 rfl (lv_at hl 2 rfl) ?_
  refine lv_i2l (v := (nI dn).toInt64) hx hb dSh_resume_22 rfl ?_
  refine va_put (D := D) (ci := 3) (v := .long ((nI dn).toInt64)) (ty := .long) (C := R_Ws) (T := T_Ws) (N := 9) hx hb hts in_Ws t_Ws tk_Ws nm_Ws hown hK hP hD hS 0 rfl rfl 6 (by decide) (hts _ gm_118) (fun _ h9 => h9) rfl (by decide +kernel) rfl rfl (Nat.le_of_ble_eq_true rfl) dSh_resume_23 (fun H locs hP hD hS => ?_)
  have hP : va_P D vwCl [(h, .inr (3, [.ref a1, .ref a2, .int (nI nh), .ref ts, .int (nI 8), .int (nI 0), .long ((nI dn).toInt64), .int bc, .ref a3])), (a1, .inl (k 2, 8, .inr (.inl g))), (fr, .inl (k 2, 8, .inr (.inl g)))] H := hP
  have hD : va_D A [(h, .inr (3, [.ref a1, .ref a2, .int (nI nh), .ref ts, .int (nI 8), .int (nI 0), .long ((nI dn).toInt64), .int bc, .ref a3])), (a1, .inl (k 2, 8, .inr (.inl g))), (fr, .inl (k 2, 8, .inr (.inl g)))] := hD
  refine W.widen (k := 0) (n := 0) (Nat.le_refl _) (Nat.le_refl _) ?_
  exact W.vret hx hb hr (fun t ht hW => ⟨⟨(), rfl, trivial, by rw [ht]; exact hP, hD⟩, hS.F ht⟩) hS.2.2 dSh_resume_26
set_option maxHeartbeats 600000 in
set_option maxRecDepth 100000 in
theorem c_W_begin (l : Launch) (D : va_G) (k : Nat → ClassId) (tb : Nat → Nat) (sz : Nat) (h a1 a2 a3 j nh fl : Nat) (tot : Int64) (bc : Int32) (S : Nat → Int64) (hj : j < 3) : Met l ySh_begin wSh_begin ({ frames := 2, cells := 0, slots := 0, locals := 82 }) (cP D k tb [(h, .inr (3, [.ref a1, .ref a2, .int (nI nh), .ref (tb j), .int (nI 8), .int (nI fl), .long tot, .int bc, .ref a3])), (a1, .inl (k 2, 8, .inr (.inl S)))] sz [.ref h]) (va_Qv (fun (u : Unit) => True) (fun (u : Unit) (t : State) => va_P D vwCl [(h, .inr (3, [.ref a1, .ref a2, .int (nI nh), .ref (tb j), .int (nI 8), .int (nI 0), .long 0, .int bc, .ref a3])), (a1, .inl (k 2, 8, .inr (.inl (iT j))))] t.heap ∧ va_D (va_A [(h, .inr (3, [.ref a1, .ref a2, .int (nI nh), .ref (tb j), .int (nI 8), .int (nI fl), .long tot, .int bc, .ref a3])), (a1, .inl (k 2, 8, .inr (.inl S)))] sz) [(h, .inr (3, [.ref a1, .ref a2, .int (nI nh), .ref (tb j), .int (nI 8), .int (nI 0), .long 0, .int bc, .ref a3])), (a1, .inl (k 2, 8, .inr (.inl (iT j))))]) (va_A [(h, .inr (3, [.ref a1, .ref a2, .int (nI nh), .ref (tb j), .int (nI 8), .int (nI fl), .long tot, .int bc, .ref a3])), (a1, .inl (k 2, 8, .inr (.inl S)))] sz)) (0) (0) (va_A [(h, .inr (3, [.ref a1, .ref a2, .int (nI nh), .ref (tb j), .int (nI 8), .int (nI fl), .long tot, .int bc, .ref a3])), (a1, .inl (k 2, 8, .inr (.inl S)))] sz) := by
  refine Met.ofW (cc := cSh_begin) (maxL := 1) (ret := none) (by decide) rfl ?_
  intro p e s m args below meth c s₁ B hml hv
  obtain ⟨rfl, hsz, hP, hK, hD0, hG⟩ := hv
  have hx := B.exec
  have hb := B.bytes
  have hr := B.returns
  have hts : ∀ w ∈ GT, w.before _ s = true := fun w h => atoms_spec (ws := wSh_begin) B.pre w (List.mem_cons_of_mem _ h)
  have hown : s.vm.findClass R_Sh = some m.cls := findClass_of_methodNamed B.named
  have hlocks := B.notSynchronized
  subst hsz
  have hD := hD0.self (sz := s.heap.size)
  generalize hAe : va_A [(h, .inr (3, [.ref a1, .ref a2, .int (nI nh), .ref (tb j), .int (nI 8), .int (nI fl), .long tot, .int bc, .ref a3])), (a1, .inl (k 2, 8, .inr (.inl S)))] s.heap.size = A at hD hG ⊢
  have hA : ∀ q : Nat, s.heap.size ≤ q → A q := fun q h => by rw [← hAe]; exact Or.inr h
  have hl := lv_entry ([.ref h]) (n := 1) (Nat.le_of_ble_eq_true rfl)
  rw [lg_entry_eq]
  generalize (lg_sl ([.ref h]) ++ List.replicate (1 - (lg_sl ([.ref h])).length) Slot.unset).toArray = ls at hl ⊢
  have hl : lv_has ls 1 [(0, .ref h)] := hl
  refine cw_start (A := A) hP (fun H locs hP hS => ?_)
  refine lv_aload_n hx hb dSh_begin_0 rfl (lv_at hl 0 rfl) ?_
  refine lv_aload_n hx hb dSh_begin_1 rfl (lv_at hl 0 rfl) ?_
  refine va_get (D := D) (ci := 3) (v := .ref (tb j)) (C := R_Ws) (T := T_Ws) (N := 9) hx hb hts in_Ws hown hK hP 0 rfl rfl 3 (by decide) (hts _ gm_115) (fun _ h9 => h9) rfl dSh_begin_2 ?_
  refine lv_iconst (v := nI 0) hx hb dSh_begin_5 (by decide) ?_
  refine rc_v (wr := []) (va_runU (As := [.ref (tb j), .int (nI 0)]) (rest := []) ⟨hx, hb, hml, hown, hts⟩ (c_W_resumeT l D k tb H.size h a1 a2 a3 j nh fl 0 tot bc S hj) (va_cwU 2 hts (gU gm_323 gm_670 gm_9 gm_324 gm_52 gm_325) rfl rfl rfl rfl (by decide +kernel) ⟨Nat.le_of_ble_eq_true rfl, Nat.le_of_ble_eq_true rfl⟩) (cP_V hP hD hK hG hS hA [0, 1] (by decide) rfl (ci := 3) (q0 := 0) rfl rfl) rfl rfl hl.1 rfl (lv_room (Nat.le_of_ble_eq_true rfl)) dSh_begin_6 ⟨Nat.le_of_ble_eq_true rfl, Nat.le_of_ble_eq_true rfl⟩) hS hA hP hD [0, 1] [] rfl rfl (by decide) (by decide) (fun u H locs hw hP hD hS => ?_)
  have hP : va_P D vwCl [(h, .inr (3, [.ref a1, .ref a2, .int (nI nh), .ref (tb j), .int (nI 8), .int (nI 0), .long ((nI 0).toInt64), .int bc, .ref a3])), (a1, .inl (k 2, 8, .inr (.inl (iT j))))] H := hP
  have hD : va_D A [(h, .inr (3, [.ref a1, .ref a2, .int (nI nh), .ref (tb j), .int (nI 8), .int (nI 0), .long ((nI 0).toInt64), .int bc, .ref a3])), (a1, .inl (k 2, 8, .inr (.inl (iT j))))] := hD
  have hP : va_P D vwCl [(h, .inr (3, [.ref a1, .ref a2, .int (nI nh), .ref (tb j), .int (nI 8), .int (nI 0), .long 0, .int bc, .ref a3])), (a1, .inl (k 2, 8, .inr (.inl (iT j))))] H := hP
  have hD : va_D A [(h, .inr (3, [.ref a1, .ref a2, .int (nI nh), .ref (tb j), .int (nI 8), .int (nI 0), .long 0, .int bc, .ref a3])), (a1, .inl (k 2, 8, .inr (.inl (iT j))))] := hD
  refine W.widen (k := 0) (n := 0) (Nat.le_refl _) (Nat.le_refl _) ?_
  exact W.vret hx hb hr (fun t ht hW => ⟨⟨(), rfl, trivial, by rw [ht]; exact hP, hD⟩, hS.F ht⟩) hS.2.2 dSh_begin_9
set_option maxHeartbeats 600000 in
set_option maxRecDepth 100000 in
theorem c_W_copy (l : Launch) (D : va_G) (k : Nat → ClassId) (tb : Nat → Nat) (sz : Nat) (h a1 a2 a3 ts nh fl h2 d1 d2 d3 ts2 nh2 fl2 : Nat) (tot tot2 : Int64) (bc bc2 : Int32) (S S2 : Nat → Int64) (b b2 : Nat → Int8) (hfl : fl2 ≤ 128) : Met l ySh_becomeCopyOf wSh_becomeCopyOf ({ frames := 1, cells := 0, slots := 0, locals := 60 }) (cP D k tb [(h, .inr (3, [.ref a1, .ref a2, .int (nI nh), .ref ts, .int (nI 8), .int (nI fl), .long tot, .int bc, .ref a3])), (a1, .inl (k 2, 8, .inr (.inl S))), (a2, .inl (k 0, 128, .inl (by_ b))), (h2, .inr (3, [.ref d1, .ref d2, .int (nI nh2), .ref ts2, .int (nI 8), .int (nI fl2), .long tot2, .int bc2, .ref d3])), (d1, .inl (k 2, 8, .inr (.inl S2))), (d2, .inl (k 0, 128, .inl (by_ b2)))] sz [.ref h, .ref h2]) (va_Qv (fun (u : Unit) => True) (fun (u : Unit) (t : State) => va_P D vwCl [(h, .inr (3, [.ref a1, .ref a2, .int (nI nh), .ref ts, .int (nI 8), .int (nI fl2), .long tot2, .int bc, .ref a3])), (a1, .inl (k 2, 8, .inr (.inl S2))), (a2, .inl (k 0, 128, .inl (by_ (va_cpy b2 b 0 0 fl2)))), (h2, .inr (3, [.ref d1, .ref d2, .int (nI nh2), .ref ts2, .int (nI 8), .int (nI fl2), .long tot2, .int bc2, .ref d3])), (d1, .inl (k 2, 8, .inr (.inl S2))), (d2, .inl (k 0, 128, .inl (by_ b2)))] t.heap ∧ va_D (va_A [(h, .inr (3, [.ref a1, .ref a2, .int (nI nh), .ref ts, .int (nI 8), .int (nI fl), .long tot, .int bc, .ref a3])), (a1, .inl (k 2, 8, .inr (.inl S))), (a2, .inl (k 0, 128, .inl (by_ b))), (h2, .inr (3, [.ref d1, .ref d2, .int (nI nh2), .ref ts2, .int (nI 8), .int (nI fl2), .long tot2, .int bc2, .ref d3])), (d1, .inl (k 2, 8, .inr (.inl S2))), (d2, .inl (k 0, 128, .inl (by_ b2)))] sz) [(h, .inr (3, [.ref a1, .ref a2, .int (nI nh), .ref ts, .int (nI 8), .int (nI fl2), .long tot2, .int bc, .ref a3])), (a1, .inl (k 2, 8, .inr (.inl S2))), (a2, .inl (k 0, 128, .inl (by_ (va_cpy b2 b 0 0 fl2)))), (h2, .inr (3, [.ref d1, .ref d2, .int (nI nh2), .ref ts2, .int (nI 8), .int (nI fl2), .long tot2, .int bc2, .ref d3])), (d1, .inl (k 2, 8, .inr (.inl S2))), (d2, .inl (k 0, 128, .inl (by_ b2)))]) (va_A [(h, .inr (3, [.ref a1, .ref a2, .int (nI nh), .ref ts, .int (nI 8), .int (nI fl), .long tot, .int bc, .ref a3])), (a1, .inl (k 2, 8, .inr (.inl S))), (a2, .inl (k 0, 128, .inl (by_ b))), (h2, .inr (3, [.ref d1, .ref d2, .int (nI nh2), .ref ts2, .int (nI 8), .int (nI fl2), .long tot2, .int bc2, .ref d3])), (d1, .inl (k 2, 8, .inr (.inl S2))), (d2, .inl (k 0, 128, .inl (by_ b2)))] sz)) (0) (0) (va_A [(h, .inr (3, [.ref a1, .ref a2, .int (nI nh), .ref ts, .int (nI 8), .int (nI fl), .long tot, .int bc, .ref a3])), (a1, .inl (k 2, 8, .inr (.inl S))), (a2, .inl (k 0, 128, .inl (by_ b))), (h2, .inr (3, [.ref d1, .ref d2, .int (nI nh2), .ref ts2, .int (nI 8), .int (nI fl2), .long tot2, .int bc2, .ref d3])), (d1, .inl (k 2, 8, .inr (.inl S2))), (d2, .inl (k 0, 128, .inl (by_ b2)))] sz) := by
  refine Met.ofW (cc := cSh_becomeCopyOf) (maxL := 2) (ret := none) (by decide) rfl ?_
  intro p e s m args below meth c s₁ B hml hv
  obtain ⟨rfl, hsz, hP, hK, hD0, hG⟩ := hv
  have hx := B.exec
  have hb := B.bytes
  have hr := B.returns
  have hts : ∀ w ∈ GT, w.before _ s = true := fun w h => atoms_spec (ws := wSh_becomeCopyOf) B.pre w (List.mem_cons_of_mem _ h)
  have hown : s.vm.findClass R_Sh = some m.cls := findClass_of_methodNamed B.named
  have hlocks := B.notSynchronized
  subst hsz
  have hD := hD0.self (sz := s.heap.size)
  generalize hAe : va_A [(h, .inr (3, [.ref a1, .ref a2, .int (nI nh), .ref ts, .int (nI 8), .int (nI fl), .long tot, .int bc, .ref a3])), (a1, .inl (k 2, 8, .inr (.inl S))), (a2, .inl (k 0, 128, .inl (by_ b))), (h2, .inr (3, [.ref d1, .ref d2, .int (nI nh2), .ref ts2, .int (nI 8), .int (nI fl2), .long tot2, .int bc2, .ref d3])), (d1, .inl (k 2, 8, .inr (.inl S2))), (d2, .inl (k 0, 128, .inl (by_ b2)))] s.heap.size = A at hD hG ⊢
  have hA : ∀ q : Nat, s.heap.size ≤ q → A q := fun q h => by rw [← hAe]; exact Or.inr h
  have hl := lv_entry ([.ref h, .ref h2]) (n := 2) (Nat.le_of_ble_eq_true rfl)
  rw [lg_entry_eq]
  generalize (lg_sl ([.ref h, .ref h2]) ++ List.replicate (2 - (lg_sl ([.ref h, .ref h2])).length) Slot.unset).toArray = ls at hl ⊢
  have hl : lv_has ls 2 [(0, .ref h), (1, .ref h2)] := hl
  refine cw_start (A := A) hP (fun H locs hP hS => ?_)
  refine lv_aload_n hx hb dSh_becomeCopyOf_0 rfl (lv_at hl 1 rfl) ?_
  refine va_get (D := D) (ci := 3) (v := .ref d1) (C := R_Ws) (T := T_Ws) (N := 9) hx hb hts in_Ws hown hK hP 3 rfl rfl 0 (by decide) (hts _ gm_100) (fun _ h9 => h9) rfl dSh_becomeCopyOf_1 ?_
  refine lv_iconst (v := nI 0) hx hb dSh_becomeCopyOf_4 (by decide) ?_
  refine lv_aload_n hx hb dSh_becomeCopyOf_5 rfl (lv_at hl 0 rfl) ?_
  refine va_get (D := D) (ci := 3) (v := .ref a1) (C := R_Ws) (T := T_Ws) (N := 9) hx hb hts in_Ws hown hK hP 0 rfl rfl 0 (by decide) (hts _ gm_100) (fun _ h9 => h9) rfl dSh_becomeCopyOf_6 ?_
  refine lv_iconst (v := nI 0) hx hb dSh_becomeCopyOf_9 (by decide) ?_
  refine lv_aload_n hx hb dSh_becomeCopyOf_10 rfl (lv_at hl 0 rfl) ?_
  refine va_get (D := D) (ci := 3) (v := .ref a1) (C := R_Ws) (T := T_Ws) (N := 9) hx hb hts in_Ws hown hK hP 0 rfl rfl 0 (by decide) (hts _ gm_100) (fun _ h9 => h9) rfl dSh_becomeCopyOf_11 ?_
  refine ra_len hx hb hK hP 1 2 rfl rfl dSh_becomeCopyOf_14 ?_
  refine rl_cp hx hb (hml.trans hl.1.symm) hown (hts _ gm_96) (hts _ gm_98) (hts _ gm_97) (hts _ gm_54) hK hP hD hS 4 1 2 2 rfl rfl rfl rfl (by omega) (by omega) (by omega) (by omega) (Nat.le_of_ble_eq_true rfl) (Nat.le_of_ble_eq_true rfl) dSh_becomeCopyOf_15 (fun H locs hP hD hS => ?_)
  have hP : va_P D vwCl [(h, .inr (3, [.ref a1, .ref a2, .int (nI nh), .ref ts, .int (nI 8), .int (nI fl), .long tot, .int bc, .ref a3])), (a1, .inl (k 2, 8, .inr (.inl (va_cpy S2 S 0 0 8)))), (a2, .inl (k 0, 128, .inl (by_ b))), (h2, .inr (3, [.ref d1, .ref d2, .int (nI nh2), .ref ts2, .int (nI 8), .int (nI fl2), .long tot2, .int bc2, .ref d3])), (d1, .inl (k 2, 8, .inr (.inl S2))), (d2, .inl (k 0, 128, .inl (by_ b2)))] H := hP
  have hD : va_D A [(h, .inr (3, [.ref a1, .ref a2, .int (nI nh), .ref ts, .int (nI 8), .int (nI fl), .long tot, .int bc, .ref a3])), (a1, .inl (k 2, 8, .inr (.inl (va_cpy S2 S 0 0 8)))), (a2, .inl (k 0, 128, .inl (by_ b))), (h2, .inr (3, [.ref d1, .ref d2, .int (nI nh2), .ref ts2, .int (nI 8), .int (nI fl2), .long tot2, .int bc2, .ref d3])), (d1, .inl (k 2, 8, .inr (.inl S2))), (d2, .inl (k 0, 128, .inl (by_ b2)))] := hD
  obtain ⟨hP, hD⟩ := wd_put hP hD 1 (y := (8, .inr (.inl S2))) rfl (wc_l (cpy_all _ _ 8) _)
  have hP : va_P D vwCl [(h, .inr (3, [.ref a1, .ref a2, .int (nI nh), .ref ts, .int (nI 8), .int (nI fl), .long tot, .int bc, .ref a3])), (a1, .inl (k 2, 8, .inr (.inl S2))), (a2, .inl (k 0, 128, .inl (by_ b))), (h2, .inr (3, [.ref d1, .ref d2, .int (nI nh2), .ref ts2, .int (nI 8), .int (nI fl2), .long tot2, .int bc2, .ref d3])), (d1, .inl (k 2, 8, .inr (.inl S2))), (d2, .inl (k 0, 128, .inl (by_ b2)))] H := hP
  have hD : va_D A [(h, .inr (3, [.ref a1, .ref a2, .int (nI nh), .ref ts, .int (nI 8), .int (nI fl), .long tot, .int bc, .ref a3])), (a1, .inl (k 2, 8, .inr (.inl S2))), (a2, .inl (k 0, 128, .inl (by_ b))), (h2, .inr (3, [.ref d1, .ref d2, .int (nI nh2), .ref ts2, .int (nI 8), .int (nI fl2), .long tot2, .int bc2, .ref d3])), (d1, .inl (k 2, 8, .inr (.inl S2))), (d2, .inl (k 0, 128, .inl (by_ b2)))] := hD
  refine lv_aload_n hx hb dSh_becomeCopyOf_18 rfl (lv_at hl 1 rfl) ?_
  refine va_get (D := D) (ci := 3) (v := .ref d2) (C := R_Ws) (T := T_Ws) (N := 9) hx hb hts in_Ws hown hK hP 3 rfl rfl 1 (by decide) (hts _ gm_107) (fun _ h9 => h9) rfl dSh_becomeCopyOf_19 ?_
  refine lv_iconst (v := nI 0) hx hb dSh_becomeCopyOf_22 (by decide) ?_
  refine lv_aload_n hx hb dSh_becomeCopyOf_23 rfl (lv_at hl 0 rfl) ?_
  refine va_get (D := D) (ci := 3) (v := .ref a2) (C := R_Ws) (T := T_Ws) (N := 9) hx hb hts in_Ws hown hK hP 0 rfl rfl 1 (by decide) (hts _ gm_107) (fun _ h9 => h9) rfl dSh_becomeCopyOf_24 ?_
  refine lv_iconst (v := nI 0) hx hb dSh_becomeCopyOf_27 (by decide) ?_
  refine lv_aload_n hx hb dSh_becomeCopyOf_28 rfl (lv_at hl 1 rfl) ?_
  refine va_get (D := D) (ci := 3) (v := .int (nI fl2)) (C := R_Ws) (T := T_Ws) (N := 9) hx hb hts in_Ws hown hK hP 3 rfl rfl 5 (by decide) (hts _ gm_117) (fun _ h9 => h9) rfl dSh_becomeCopyOf_29 ?_
  refine rb_cp hx hb (hml.trans hl.1.symm) hown (hts _ gm_96) (hts _ gm_98) (hts _ gm_97) (hts _ gm_54) hK hP hD hS 5 2 0 0 rfl rfl rfl rfl (by omega) (by omega) (by omega) (by omega) (Nat.le_of_ble_eq_true rfl) (Nat.le_of_ble_eq_true rfl) dSh_becomeCopyOf_32 (fun H locs hP hD hS => ?_)
  have hP : va_P D vwCl [(h, .inr (3, [.ref a1, .ref a2, .int (nI nh), .ref ts, .int (nI 8), .int (nI fl), .long tot, .int bc, .ref a3])), (a1, .inl (k 2, 8, .inr (.inl S2))), (a2, .inl (k 0, 128, .inl (by_ (va_cpy b2 b 0 0 fl2)))), (h2, .inr (3, [.ref d1, .ref d2, .int (nI nh2), .ref ts2, .int (nI 8), .int (nI fl2), .long tot2, .int bc2, .ref d3])), (d1, .inl (k 2, 8, .inr (.inl S2))), (d2, .inl (k 0, 128, .inl (by_ b2)))] H := hP
  have hD : va_D A [(h, .inr (3, [.ref a1, .ref a2, .int (nI nh), .ref ts, .int (nI 8), .int (nI fl), .long tot, .int bc, .ref a3])), (a1, .inl (k 2, 8, .inr (.inl S2))), (a2, .inl (k 0, 128, .inl (by_ (va_cpy b2 b 0 0 fl2)))), (h2, .inr (3, [.ref d1, .ref d2, .int (nI nh2), .ref ts2, .int (nI 8), .int (nI fl2), .long tot2, .int bc2, .ref d3])), (d1, .inl (k 2, 8, .inr (.inl S2))), (d2, .inl (k 0, 128, .inl (by_ b2)))] := hD
  refine lv_aload_n hx hb dSh_becomeCopyOf_35 rfl (lv_at hl 0 rfl) ?_
  refine lv_aload_n hx hb dSh_becomeCopyOf_36 rfl (lv_at hl 1 rfl) ?_
  refine va_get (D := D) (ci := 3) (v := .int (nI fl2)) (C := R_Ws) (T := T_Ws) (N := 9) hx hb hts in_Ws hown hK hP 3 rfl rfl 5 (by decide) (hts _ gm_117) (fun _ h9 => h9) rfl dSh_becomeCopyOf_37 ?_
  refine va_put (D := D) (ci := 3) (v := .int (nI fl2)) (ty := .int) (C := R_Ws) (T := T_Ws) (N := 9) hx hb hts in_Ws t_Ws tk_Ws nm_Ws hown hK hP hD hS 0 rfl rfl 5 (by decide) (hts _ gm_117) (fun _ h9 => h9) rfl (by decide +kernel) rfl rfl (Nat.le_of_ble_eq_true rfl) dSh_becomeCopyOf_40 (fun H locs hP hD hS => ?_)
  have hP : va_P D vwCl [(h, .inr (3, [.ref a1, .ref a2, .int (nI nh), .ref ts, .int (nI 8), .int (nI fl2), .long tot, .int bc, .ref a3])), (a1, .inl (k 2, 8, .inr (.inl S2))), (a2, .inl (k 0, 128, .inl (by_ (va_cpy b2 b 0 0 fl2)))), (h2, .inr (3, [.ref d1, .ref d2, .int (nI nh2), .ref ts2, .int (nI 8), .int (nI fl2), .long tot2, .int bc2, .ref d3])), (d1, .inl (k 2, 8, .inr (.inl S2))), (d2, .inl (k 0, 128, .inl (by_ b2)))] H := hP
  have hD : va_D A [(h, .inr (3, [.ref a1, .ref a2, .int (nI nh), .ref ts, .int (nI 8), .int (nI fl2), .long tot, .int bc, .ref a3])), (a1, .inl (k 2, 8, .inr (.inl S2))), (a2, .inl (k 0, 128, .inl (by_ (va_cpy b2 b 0 0 fl2)))), (h2, .inr (3, [.ref d1, .ref d2, .int (nI nh2), .ref ts2, .int (nI 8), .int (nI fl2), .long tot2, .int bc2, .ref d3])), (d1, .inl (k 2, 8, .inr (.inl S2))), (d2, .inl (k 0, 128, .inl (by_ b2)))] := hD
  refine lv_aload_n hx hb dSh_becomeCopyOf_43 rfl (lv_at hl 0 rfl) ?_
  refine lv_aload_n hx hb dSh_becomeCopyOf_44 rfl (lv_at hl 1 rfl) ?_
  refine va_get (D := D) (ci := 3) (v := .long tot2) (C := R_Ws) (T := T_Ws) (N := 9) hx hb hts in_Ws hown hK hP 3 rfl rfl 6 (by decide) (hts _ gm_118) (fun _ h9 => h9) rfl dSh_becomeCopyOf_45 ?_
  refine va_put (D := D) (ci := 3) (v := .long tot2) (ty := .long) (C := R_Ws) (T := T_Ws) (N := 9) hx hb hts in_Ws t_Ws tk_Ws nm_Ws hown hK hP hD hS 0 rfl rfl 6 (by decide) (hts _ gm_118) (fun _ h9 => h9) rfl (by decide +kernel) rfl rfl (Nat.le_of_ble_eq_true rfl) dSh_becomeCopyOf_48 (fun H locs hP hD hS => ?_)
  have hP : va_P D vwCl [(h, .inr (3, [.ref a1, .ref a2, .int (nI nh), .ref ts, .int (nI 8), .int (nI fl2), .long tot2, .int bc, .ref a3])), (a1, .inl (k 2, 8, .inr (.inl S2))), (a2, .inl (k 0, 128, .inl (by_ (va_cpy b2 b 0 0 fl2)))), (h2, .inr (3, [.ref d1, .ref d2, .int (nI nh2), .ref ts2, .int (nI 8), .int (nI fl2), .long tot2, .int bc2, .ref d3])), (d1, .inl (k 2, 8, .inr (.inl S2))), (d2, .inl (k 0, 128, .inl (by_ b2)))] H := hP
  have hD : va_D A [(h, .inr (3, [.ref a1, .ref a2, .int (nI nh), .ref ts, .int (nI 8), .int (nI fl2), .long tot2, .int bc, .ref a3])), (a1, .inl (k 2, 8, .inr (.inl S2))), (a2, .inl (k 0, 128, .inl (by_ (va_cpy b2 b 0 0 fl2)))), (h2, .inr (3, [.ref d1, .ref d2, .int (nI nh2), .ref ts2, .int (nI 8), .int (nI fl2), .long tot2, .int bc2, .ref d3])), (d1, .inl (k 2, 8, .inr (.inl S2))), (d2, .inl (k 0, 128, .inl (by_ b2)))] := hD
  refine W.widen (k := 0) (n := 0) (Nat.le_refl _) (Nat.le_refl _) ?_
  exact W.vret hx hb hr (fun t ht hW => ⟨⟨(), rfl, trivial, by rw [ht]; exact hP, hD⟩, hS.F ht⟩) hS.2.2 dSh_becomeCopyOf_51
set_option maxHeartbeats 600000 in
set_option maxRecDepth 100000 in
theorem c_W_super (l : Launch) (D : va_G) (k : Nat → ClassId) (tb : Nat → Nat) (sz : Nat) (h j nh : Nat) (hj : j < 3) : Met l ySh_init wSh_init ({ frames := 1, cells := 2, slots := 8 + 16 * 8, locals := 60 }) (cP D k tb [(h, .inr (3, [.null, .null, .int (nI 0), .null, .int (nI 0), .int (nI 0), .long 0, .int 0, .null]))] sz [.ref h, .ref (tb j), .int (nI 8), .int (nI nh)]) (va_Qv (fun (u : Nat × Nat) => True) (fun (u : Nat × Nat) (t : State) => va_P D vwCl [(h, .inr (3, [.ref u.1, .ref u.2, .int (nI nh), .ref (tb j), .int (nI 8), .int (nI 0), .long 0, .int 0, .null])), (u.1, .inl (k 2, 8, .inr (.inl (iT j)))), (u.2, .inl (k 0, 128, .inl (by_ (fun _ => 0))))] t.heap ∧ va_D (va_A [(h, .inr (3, [.null, .null, .int (nI 0), .null, .int (nI 0), .int (nI 0), .long 0, .int 0, .null]))] sz) [(h, .inr (3, [.ref u.1, .ref u.2, .int (nI nh), .ref (tb j), .int (nI 8), .int (nI 0), .long 0, .int 0, .null])), (u.1, .inl (k 2, 8, .inr (.inl (iT j)))), (u.2, .inl (k 0, 128, .inl (by_ (fun _ => 0))))]) (va_A [(h, .inr (3, [.null, .null, .int (nI 0), .null, .int (nI 0), .int (nI 0), .long 0, .int 0, .null]))] sz)) (2) (8 + 16 * 8) (va_A [(h, .inr (3, [.null, .null, .int (nI 0), .null, .int (nI 0), .int (nI 0), .long 0, .int 0, .null]))] sz) := by
  refine Met.ofW (cc := cSh_init) (maxL := 4) (ret := none) (by decide) rfl ?_
  intro p e s m args below meth c s₁ B hml hv
  obtain ⟨rfl, hsz, hP, hK, hD0, hG⟩ := hv
  have hx := B.exec
  have hb := B.bytes
  have hr := B.returns
  have hts : ∀ w ∈ GT, w.before _ s = true := fun w h => atoms_spec (ws := wSh_init) B.pre w (List.mem_cons_of_mem _ h)
  have hown : s.vm.findClass R_Sh = some m.cls := findClass_of_methodNamed B.named
  have hlocks := B.notSynchronized
  have hin : meth.name = "<init>" := (name_of_methodNamed B.named B.method).1
  subst hsz
  have hD := hD0.self (sz := s.heap.size)
  generalize hAe : va_A [(h, .inr (3, [.null, .null, .int (nI 0), .null, .int (nI 0), .int (nI 0), .long 0, .int 0, .null]))] s.heap.size = A at hD hG ⊢
  have hA : ∀ q : Nat, s.heap.size ≤ q → A q := fun q h => by rw [← hAe]; exact Or.inr h
  have hl := lv_entry ([.ref h, .ref (tb j), .int (nI 8), .int (nI nh)]) (n := 4) (Nat.le_of_ble_eq_true rfl)
  rw [lg_entry_eq]
  generalize (lg_sl ([.ref h, .ref (tb j), .int (nI 8), .int (nI nh)]) ++ List.replicate (4 - (lg_sl ([.ref h, .ref (tb j), .int (nI 8), .int (nI nh)])).length) Slot.unset).toArray = ls at hl ⊢
  have hl : lv_has ls 4 [(0, .ref h), (1, .ref (tb j)), (2, .int (nI 8)), (3, .int (nI nh))] := hl
  refine cw_start (A := A) hP (fun H locs hP hS => ?_)
  refine lv_aload_n hx hb dSh_init_0 rfl (lv_at hl 0 rfl) ?_
  refine W.objInit hx hb hown (hts _ gm_95) (hts _ gm_73) (hts _ gm_74) rfl (by rw [hml]; exact hl.1) rfl dSh_init_1 (Nat.le_of_ble_eq_true rfl) (Nat.le_of_ble_eq_true rfl) ?_
  refine W.eq (g2 := F0 m 4 ls []) rfl ?_
  refine lv_aload_n hx hb dSh_init_4 rfl (lv_at hl 0 rfl) ?_
  refine lv_bipush (v := nI 8) hx hb dSh_init_5 (by decide) ?_
  refine rk_newl hx hb (hts _ gm_129) hK hP hD hS hA (by omega) (by show 0 + 1 ≤ 2; omega) (by show 0 + 8 ≤ 8 + 16 * 8; omega) dSh_init_7 (fun q1 H hP hD hS => ?_)
  have hP : va_P D vwCl [(h, .inr (3, [.null, .null, .int (nI 0), .null, .int (nI 0), .int (nI 0), .long 0, .int 0, .null])), (q1, .inl (k 2, 8, .inr (.inl (fun _ => 0))))] H := hP
  have hD : va_D A [(h, .inr (3, [.null, .null, .int (nI 0), .null, .int (nI 0), .int (nI 0), .long 0, .int 0, .null])), (q1, .inl (k 2, 8, .inr (.inl (fun _ => 0))))] := hD
  refine va_putF (D := D) (ci := 3) (v := .ref q1) (ty := .array .long) (C := R_Ws) (T := T_Ws) (N := 9) hx hb hts in_Ws t_Ws tk_Ws nm_Ws hown hK hP hD hS 0 rfl rfl 0 (by decide) (hts _ gm_100) (fun _ h9 => h9) rfl hin rfl (by decide +kernel) rfl rfl (Nat.le_of_ble_eq_true rfl) dSh_init_9 (fun H locs hP hD hS => ?_)
  have hP : va_P D vwCl [(h, .inr (3, [.ref q1, .null, .int (nI 0), .null, .int (nI 0), .int (nI 0), .long 0, .int 0, .null])), (q1, .inl (k 2, 8, .inr (.inl (fun _ => 0))))] H := hP
  have hD : va_D A [(h, .inr (3, [.ref q1, .null, .int (nI 0), .null, .int (nI 0), .int (nI 0), .long 0, .int 0, .null])), (q1, .inl (k 2, 8, .inr (.inl (fun _ => 0))))] := hD
  refine lv_aload_n hx hb dSh_init_12 rfl (lv_at hl 0 rfl) ?_
  refine lv_aload_n hx hb dSh_init_13 rfl (lv_at hl 1 rfl) ?_
  refine va_putF (D := D) (ci := 3) (v := .ref (tb j)) (ty := .array .long) (C := R_Ws) (T := T_Ws) (N := 9) hx hb hts in_Ws t_Ws tk_Ws nm_Ws hown hK hP hD hS 0 rfl rfl 3 (by decide) (hts _ gm_115) (fun _ h9 => h9) rfl hin rfl (by decide +kernel) rfl rfl (Nat.le_of_ble_eq_true rfl) dSh_init_14 (fun H locs hP hD hS => ?_)
  have hP : va_P D vwCl [(h, .inr (3, [.ref q1, .null, .int (nI 0), .ref (tb j), .int (nI 0), .int (nI 0), .long 0, .int 0, .null])), (q1, .inl (k 2, 8, .inr (.inl (fun _ => 0))))] H := hP
  have hD : va_D A [(h, .inr (3, [.ref q1, .null, .int (nI 0), .ref (tb j), .int (nI 0), .int (nI 0), .long 0, .int 0, .null])), (q1, .inl (k 2, 8, .inr (.inl (fun _ => 0))))] := hD
  refine lv_aload_n hx hb dSh_init_17 rfl (lv_at hl 0 rfl) ?_
  refine lv_iload_n hx hb dSh_init_18 rfl (lv_at hl 2 rfl) ?_
  refine va_putF (D := D) (ci := 3) (v := .int (nI 8)) (ty := .int) (C := R_Ws) (T := T_Ws) (N := 9) hx hb hts in_Ws t_Ws tk_Ws nm_Ws hown hK hP hD hS 0 rfl rfl 4 (by decide) (hts _ gm_116) (fun _ h9 => h9) rfl hin rfl (by decide +kernel) rfl rfl (Nat.le_of_ble_eq_true rfl) dSh_init_19 (fun H locs hP hD hS => ?_)
  have hP : va_P D vwCl [(h, .inr (3, [.ref q1, .null, .int (nI 0), .ref (tb j), .int (nI 8), .int (nI 0), .long 0, .int 0, .null])), (q1, .inl (k 2, 8, .inr (.inl (fun _ => 0))))] H := hP
  have hD : va_D A [(h, .inr (3, [.ref q1, .null, .int (nI 0), .ref (tb j), .int (nI 8), .int (nI 0), .long 0, .int 0, .null])), (q1, .inl (k 2, 8, .inr (.inl (fun _ => 0))))] := hD
  refine lv_aload_n hx hb dSh_init_22 rfl (lv_at hl 0 rfl) ?_
  refine lv_iload_n hx hb dSh_init_23 rfl (lv_at hl 3 rfl) ?_
  refine va_putF (D := D) (ci := 3) (v := .int (nI nh)) (ty := .int) (C := R_Ws) (T := T_Ws) (N := 9) hx hb hts in_Ws t_Ws tk_Ws nm_Ws hown hK hP hD hS 0 rfl rfl 2 (by decide) (hts _ gm_112) (fun _ h9 => h9) rfl hin rfl (by decide +kernel) rfl rfl (Nat.le_of_ble_eq_true rfl) dSh_init_24 (fun H locs hP hD hS => ?_)
  have hP : va_P D vwCl [(h, .inr (3, [.ref q1, .null, .int (nI nh), .ref (tb j), .int (nI 8), .int (nI 0), .long 0, .int 0, .null])), (q1, .inl (k 2, 8, .inr (.inl (fun _ => 0))))] H := hP
  have hD : va_D A [(h, .inr (3, [.ref q1, .null, .int (nI nh), .ref (tb j), .int (nI 8), .int (nI 0), .long 0, .int 0, .null])), (q1, .inl (k 2, 8, .inr (.inl (fun _ => 0))))] := hD
  refine lv_aload_n hx hb dSh_init_27 rfl (lv_at hl 0 rfl) ?_
  refine lv_bipush (v := nI 16) hx hb dSh_init_28 (by decide) ?_
  refine lv_iload_n hx hb dSh_init_30 rfl (lv_at hl 2 rfl) ?_
  refine ri_mul hx hb dSh_init_31 ?_
  refine rk_newb hx hb (hts _ gm_84) hK hP hD hS hA (by omega) (by show 0 + 1 + 1 ≤ 2; omega) (by show 0 + 8 + (16 * 8) ≤ 8 + 16 * 8; omega) dSh_init_32 (fun q2 H hP hD hS => ?_)
  have hP : va_P D vwCl [(h, .inr (3, [.ref q1, .null, .int (nI nh), .ref (tb j), .int (nI 8), .int (nI 0), .long 0, .int 0, .null])), (q1, .inl (k 2, 8, .inr (.inl (fun _ => 0)))), (q2, .inl (k 0, 16 * 8, .inl (by_ (fun _ => 0))))] H := hP
  have hD : va_D A [(h, .inr (3, [.ref q1, .null, .int (nI nh), .ref (tb j), .int (nI 8), .int (nI 0), .long 0, .int 0, .null])), (q1, .inl (k 2, 8, .inr (.inl (fun _ => 0)))), (q2, .inl (k 0, 16 * 8, .inl (by_ (fun _ => 0))))] := hD
  refine va_putF (D := D) (ci := 3) (v := .ref q2) (ty := .array .byte) (C := R_Ws) (T := T_Ws) (N := 9) hx hb hts in_Ws t_Ws tk_Ws nm_Ws hown hK hP hD hS 0 rfl rfl 1 (by decide) (hts _ gm_107) (fun _ h9 => h9) rfl hin rfl (by decide +kernel) rfl rfl (Nat.le_of_ble_eq_true rfl) dSh_init_34 (fun H locs hP hD hS => ?_)
  have hP : va_P D vwCl [(h, .inr (3, [.ref q1, .ref q2, .int (nI nh), .ref (tb j), .int (nI 8), .int (nI 0), .long 0, .int 0, .null])), (q1, .inl (k 2, 8, .inr (.inl (fun _ => 0)))), (q2, .inl (k 0, 16 * 8, .inl (by_ (fun _ => 0))))] H := hP
  have hD : va_D A [(h, .inr (3, [.ref q1, .ref q2, .int (nI nh), .ref (tb j), .int (nI 8), .int (nI 0), .long 0, .int 0, .null])), (q1, .inl (k 2, 8, .inr (.inl (fun _ => 0)))), (q2, .inl (k 0, 16 * 8, .inl (by_ (fun _ => 0))))] := hD
  refine lv_aload_n hx hb dSh_init_37 rfl (lv_at hl 1 rfl) ?_
  refine lv_iconst (v := nI 0) hx hb dSh_init_38 (by decide) ?_
  refine lv_aload_n hx hb dSh_init_39 rfl (lv_at hl 0 rfl) ?_
  refine va_get (D := D) (ci := 3) (v := .ref q1) (C := R_Ws) (T := T_Ws) (N := 9) hx hb hts in_Ws hown hK hP 0 rfl rfl 0 (by decide) (hts _ gm_100) (fun _ h9 => h9) rfl dSh_init_40 ?_
  refine lv_iconst (v := nI 0) hx hb dSh_init_43 (by decide) ?_
  refine lv_aload_n hx hb dSh_init_44 rfl (lv_at hl 0 rfl) ?_
  refine va_get (D := D) (ci := 3) (v := .ref q1) (C := R_Ws) (T := T_Ws) (N := 9) hx hb hts in_Ws hown hK hP 0 rfl rfl 0 (by decide) (hts _ gm_100) (fun _ h9 => h9) rfl dSh_init_45 ?_
  refine ra_len hx hb hK hP 1 2 rfl rfl dSh_init_48 ?_
  refine rt_cpl hx hb (hml.trans hl.1.symm) hown (hts _ gm_96) (hts _ gm_98) (hts _ gm_97) (hts _ gm_54) hK hP hD hS (gOk.tab hG hj) 1 2 rfl rfl (by omega) (by omega) (by omega) (by omega) (Nat.le_of_ble_eq_true rfl) (Nat.le_of_ble_eq_true rfl) dSh_init_49 (fun H locs hP hD hS => ?_)
  have hP : va_P D vwCl [(h, .inr (3, [.ref q1, .ref q2, .int (nI nh), .ref (tb j), .int (nI 8), .int (nI 0), .long 0, .int 0, .null])), (q1, .inl (k 2, 8, .inr (.inl (va_cpy (iT j) (fun _ => 0) 0 0 8)))), (q2, .inl (k 0, 16 * 8, .inl (by_ (fun _ => 0))))] H := hP
  have hD : va_D A [(h, .inr (3, [.ref q1, .ref q2, .int (nI nh), .ref (tb j), .int (nI 8), .int (nI 0), .long 0, .int 0, .null])), (q1, .inl (k 2, 8, .inr (.inl (va_cpy (iT j) (fun _ => 0) 0 0 8)))), (q2, .inl (k 0, 16 * 8, .inl (by_ (fun _ => 0))))] := hD
  obtain ⟨hP, hD⟩ := wd_put hP hD 1 (y := (8, .inr (.inl (iT j)))) rfl (wc_l (cpy_all _ _ 8) _)
  have hP : va_P D vwCl [(h, .inr (3, [.ref q1, .ref q2, .int (nI nh), .ref (tb j), .int (nI 8), .int (nI 0), .long 0, .int 0, .null])), (q1, .inl (k 2, 8, .inr (.inl (iT j)))), (q2, .inl (k 0, 16 * 8, .inl (by_ (fun _ => 0))))] H := hP
  have hD : va_D A [(h, .inr (3, [.ref q1, .ref q2, .int (nI nh), .ref (tb j), .int (nI 8), .int (nI 0), .long 0, .int 0, .null])), (q1, .inl (k 2, 8, .inr (.inl (iT j)))), (q2, .inl (k 0, 16 * 8, .inl (by_ (fun _ => 0))))] := hD
  refine W.widen (k := 2) (n := 8 + 16 * 8) (by omega) (by omega) ?_
  exact W.vret hx hb hr (fun t ht hW => ⟨⟨(q1, q2), rfl, trivial, by rw [ht]; exact hP, hD⟩, hS.F ht⟩) hS.2.2 dSh_init_52
set_option maxHeartbeats 600000 in
set_option maxRecDepth 100000 in
theorem c_W_init (l : Launch) (D : va_G) (k : Nat → ClassId) (tb : Nat → Nat) (sz : Nat) (h j nh : Nat) (hj : j < 3) : Met l yWs_init wWs_init ({ frames := 2, cells := 3, slots := 8 + 16 * 8 + 80, locals := 83 }) (cP D k tb [(h, .inr (3, [.null, .null, .int (nI 0), .null, .int (nI 0), .int (nI 0), .long 0, .int 0, .null]))] sz [.ref h, .ref (tb j), .int (nI nh)]) (va_Qv (fun (u : Nat × Nat × Nat) => True) (fun (u : Nat × Nat × Nat) (t : State) => va_P D vwCl [(h, .inr (3, [.ref u.1, .ref u.2.1, .int (nI nh), .ref (tb j), .int (nI 8), .int (nI 0), .long 0, .int 0, .ref u.2.2])), (u.1, .inl (k 2, 8, .inr (.inl (iT j)))), (u.2.1, .inl (k 0, 128, .inl (by_ (fun _ => 0)))), (u.2.2, .inl (k 2, 80, .inr (.inl (fun _ => 0))))] t.heap ∧ va_D (va_A [(h, .inr (3, [.null, .null, .int (nI 0), .null, .int (nI 0), .int (nI 0), .long 0, .int 0, .null]))] sz) [(h, .inr (3, [.ref u.1, .ref u.2.1, .int (nI nh), .ref (tb j), .int (nI 8), .int (nI 0), .long 0, .int 0, .ref u.2.2])), (u.1, .inl (k 2, 8, .inr (.inl (iT j)))), (u.2.1, .inl (k 0, 128, .inl (by_ (fun _ => 0)))), (u.2.2, .inl (k 2, 80, .inr (.inl (fun _ => 0))))]) (va_A [(h, .inr (3, [.null, .null, .int (nI 0), .null, .int (nI 0), .int (nI 0), .long 0, .int 0, .null]))] sz)) (3) (8 + 16 * 8 + 80) (va_A [(h, .inr (3, [.null, .null, .int (nI 0), .null, .int (nI 0), .int (nI 0), .long 0, .int 0, .null]))] sz) := by
  refine Met.ofW (cc := cWs_init) (maxL := 3) (ret := none) (by decide) rfl ?_
  intro p e s m args below meth c s₁ B hml hv
  obtain ⟨rfl, hsz, hP, hK, hD0, hG⟩ := hv
  have hx := B.exec
  have hb := B.bytes
  have hr := B.returns
  have hts : ∀ w ∈ GT, w.before _ s = true := fun w h => atoms_spec (ws := wWs_init) B.pre w (List.mem_cons_of_mem _ h)
  have hown : s.vm.findClass R_Ws = some m.cls := findClass_of_methodNamed B.named
  have hlocks := B.notSynchronized
  have hin : meth.name = "<init>" := (name_of_methodNamed B.named B.method).1
  subst hsz
  have hD := hD0.self (sz := s.heap.size)
  generalize hAe : va_A [(h, .inr (3, [.null, .null, .int (nI 0), .null, .int (nI 0), .int (nI 0), .long 0, .int 0, .null]))] s.heap.size = A at hD hG ⊢
  have hA : ∀ q : Nat, s.heap.size ≤ q → A q := fun q h => by rw [← hAe]; exact Or.inr h
  have hl := lv_entry ([.ref h, .ref (tb j), .int (nI nh)]) (n := 3) (Nat.le_of_ble_eq_true rfl)
  rw [lg_entry_eq]
  generalize (lg_sl ([.ref h, .ref (tb j), .int (nI nh)]) ++ List.replicate (3 - (lg_sl ([.ref h, .ref (tb j), .int (nI nh)])).length) Slot.unset).toArray = ls at hl ⊢
  have hl : lv_has ls 3 [(0, .ref h), (1, .ref (tb j)), (2, .int (nI nh))] := hl
  refine cw_start (A := A) hP (fun H locs hP hS => ?_)
  refine lv_aload_n hx hb dWs_init_0 rfl (lv_at hl 0 rfl) ?_
  refine lv_aload_n hx hb dWs_init_1 rfl (lv_at hl 1 rfl) ?_
  refine lv_bipush (v := nI 8) hx hb dWs_init_2 (by decide) ?_
  refine lv_iload_n hx hb dWs_init_4 rfl (lv_at hl 2 rfl) ?_
  refine rc_v (wr := []) (va_runI (As := [.ref (tb j), .int (nI 8), .int (nI nh)]) (rest := []) ⟨hx, hb, hml, hown, hts⟩ (c_W_super l D k tb H.size h j nh hj) (cwI 3 hts (gC gm_94) rfl rfl rfl (hts _ gm_52) (hts _ gm_137) (hts _ gm_93) rfl (by decide +kernel) ⟨Nat.le_of_ble_eq_true rfl, Nat.le_of_ble_eq_true rfl⟩) (cP_S hP hD hK hG hS hA [0] (by decide) rfl) rfl rfl hl.1 rfl (lv_room (Nat.le_of_ble_eq_true rfl)) dWs_init_5 ⟨by show 0 + 2 ≤ 3; omega, by show 0 + (8 + 16 * 8) ≤ 8 + 16 * 8 + 80; omega⟩) hS hA hP hD [0] [] rfl rfl (by decide) (by decide) (fun u9 H locs hw hP hD hS => ?_)
  obtain ⟨q1, q2⟩ := u9
  have hP : va_P D vwCl [(h, .inr (3, [.ref q1, .ref q2, .int (nI nh), .ref (tb j), .int (nI 8), .int (nI 0), .long 0, .int 0, .null])), (q1, .inl (k 2, 8, .inr (.inl (iT j)))), (q2, .inl (k 0, 128, .inl (by_ (fun _ => 0))))] H := hP
  have hD : va_D A [(h, .inr (3, [.ref q1, .ref q2, .int (nI nh), .ref (tb j), .int (nI 8), .int (nI 0), .long 0, .int 0, .null])), (q1, .inl (k 2, 8, .inr (.inl (iT j)))), (q2, .inl (k 0, 128, .inl (by_ (fun _ => 0))))] := hD
  refine lv_aload_n hx hb dWs_init_8 rfl (lv_at hl 0 rfl) ?_
  refine lv_bipush (v := nI 80) hx hb dWs_init_9 (by decide) ?_
  refine rk_newl hx hb (hts _ gm_129) hK hP hD hS hA (by omega) (by show 0 + 2 + 1 ≤ 3; omega) (by show 0 + (8 + 16 * 8) + 80 ≤ 8 + 16 * 8 + 80; omega) dWs_init_11 (fun q3 H hP hD hS => ?_)
  have hP : va_P D vwCl [(h, .inr (3, [.ref q1, .ref q2, .int (nI nh), .ref (tb j), .int (nI 8), .int (nI 0), .long 0, .int 0, .null])), (q1, .inl (k 2, 8, .inr (.inl (iT j)))), (q2, .inl (k 0, 128, .inl (by_ (fun _ => 0)))), (q3, .inl (k 2, 80, .inr (.inl (fun _ => 0))))] H := hP
  have hD : va_D A [(h, .inr (3, [.ref q1, .ref q2, .int (nI nh), .ref (tb j), .int (nI 8), .int (nI 0), .long 0, .int 0, .null])), (q1, .inl (k 2, 8, .inr (.inl (iT j)))), (q2, .inl (k 0, 128, .inl (by_ (fun _ => 0)))), (q3, .inl (k 2, 80, .inr (.inl (fun _ => 0))))] := hD
  refine va_putF (D := D) (ci := 3) (v := .ref q3) (ty := .array .long) (C := R_Ws) (T := T_Ws) (N := 9) hx hb hts in_Ws t_Ws tk_Ws nm_Ws hown hK hP hD hS 0 rfl rfl 8 (by decide) (hts _ gm_138) (fun _ h9 => h9) rfl hin rfl (by decide +kernel) rfl rfl (Nat.le_of_ble_eq_true rfl) dWs_init_13 (fun H locs hP hD hS => ?_)
  have hP : va_P D vwCl [(h, .inr (3, [.ref q1, .ref q2, .int (nI nh), .ref (tb j), .int (nI 8), .int (nI 0), .long 0, .int 0, .ref q3])), (q1, .inl (k 2, 8, .inr (.inl (iT j)))), (q2, .inl (k 0, 128, .inl (by_ (fun _ => 0)))), (q3, .inl (k 2, 80, .inr (.inl (fun _ => 0))))] H := hP
  have hD : va_D A [(h, .inr (3, [.ref q1, .ref q2, .int (nI nh), .ref (tb j), .int (nI 8), .int (nI 0), .long 0, .int 0, .ref q3])), (q1, .inl (k 2, 8, .inr (.inl (iT j)))), (q2, .inl (k 0, 128, .inl (by_ (fun _ => 0)))), (q3, .inl (k 2, 80, .inr (.inl (fun _ => 0))))] := hD
  refine W.widen (k := 3) (n := 8 + 16 * 8 + 80) (by omega) (by omega) ?_
  exact W.vret hx hb hr (fun t ht hW => ⟨⟨(q1, q2, q3), rfl, trivial, by rw [ht]; exact hP, hD⟩, hS.F ht⟩) hS.2.2 dWs_init_16
