/-! THE ROWS of bytes: Arrays.copyOf, Arrays.fill, DigestBox$Row -/
def wRw_init : List Cond := .code yRw_init cRw_init 1 none :: GT
def wRw_append : List Cond := .code yRw_append cRw_append 4 none :: GT
def wRw_appendByte : List Cond := .code yRw_appendByte cRw_appendByte 2 none :: GT
def wRw_appendNumber : List Cond := .code yRw_appendNumber cRw_appendNumber 2 none :: GT
def wRw_becomeCopyOf : List Cond := .code yRw_becomeCopyOf cRw_becomeCopyOf 2 none :: GT
def wRw_makeRoom : List Cond := .code yRw_makeRoom cRw_makeRoom 2 none :: GT
def wAr_copyOf : List Cond := .code yAr_copyOf cAr_copyOf 3 (some (.array .byte)) :: GT
def wAr_fill0 : List Cond := .code yAr_fill0 cAr_fill0 4 none :: GT
def wAr_fill1 : List Cond := .code yAr_fill1 cAr_fill1 5 none :: GT
def wAr_rangeCheck : List Cond := .code yAr_rangeCheck cAr_rangeCheck 3 none :: GT
set_option maxHeartbeats 600000 in
set_option maxRecDepth 100000 in
/-- Arrays.copyOf of bytes, to a longer array -/
theorem c_copyOf (l : Launch) (D : va_G) (k : Nat → ClassId) (tb : Nat → Nat) (sz : Nat) (a n0 n : Nat) (f : Nat → Int8) (hn : n0 < n) (hn2 : n ≤ 536870912) : Met l yAr_copyOf wAr_copyOf ({ frames := 1, cells := 1, slots := n, locals := 60 }) (cP D k tb [(a, .inl (k 0, n0, .inl (by_ f)))] sz [.ref a, .int (nI n)]) (va_Qr (fun (u : Unit) => True) (fun (u : Unit) (a9 : Nat) (t : State) => va_P D vwCl [(a, .inl (k 0, n0, .inl (by_ f))), (a9, .inl (k 0, n, .inl (by_ (va_cpy f (fun _ => 0) 0 0 (min n0 n)))))] t.heap ∧ va_D (va_A [(a, .inl (k 0, n0, .inl (by_ f)))] sz) [(a, .inl (k 0, n0, .inl (by_ f))), (a9, .inl (k 0, n, .inl (by_ (va_cpy f (fun _ => 0) 0 0 (min n0 n)))))]) (va_A [(a, .inl (k 0, n0, .inl (by_ f)))] sz)) (1) (n) (va_A [(a, .inl (k 0, n0, .inl (by_ f)))] sz) := by
  refine Met.ofW (cc := cAr_copyOf) (maxL := 3) (ret := (some (.array .byte))) (by decide) rfl ?_
  intro p e s m args below meth c s₁ B hml hv
  obtain ⟨rfl, hsz, hP, hK, hD0, hG⟩ := hv
  have hx := B.exec
  have hb := B.bytes
  have hr := B.returns
  have hts : ∀ w ∈ GT, w.before _ s = true := fun w h => atoms_spec (ws := wAr_copyOf) B.pre w (List.mem_cons_of_mem _ h)
  have hown : s.vm.findClass R_Ar = some m.cls := findClass_of_methodNamed B.named
  have hlocks := B.notSynchronized
  subst hsz
  have hD := hD0.self (sz := s.heap.size)
  generalize hAe : va_A [(a, .inl (k 0, n0, .inl (by_ f)))] s.heap.size = A at hD hG ⊢
  have hA : ∀ q : Nat, s.heap.size ≤ q → A q := fun q h => by rw [← hAe]; exact Or.inr h
  have hl := lv_entry ([.ref a, .int (nI n)]) (n := 3) (Nat.le_of_ble_eq_true rfl)
  rw [lg_entry_eq]
  generalize (lg_sl ([.ref a, .int (nI n)]) ++ List.replicate (3 - (lg_sl ([.ref a, .int (nI n)])).length) Slot.unset).toArray = ls at hl ⊢
  have hl : lv_has ls 3 [(0, .ref a), (1, .int (nI n))] := hl
  refine cw_start (A := A) hP (fun H locs hP hS => ?_)
  refine lv_iload_n hx hb dAr_copyOf_0 rfl (lv_at hl 1 rfl) ?_
  refine lv_aload_n hx hb dAr_copyOf_1 rfl (lv_at hl 0 rfl) ?_
  refine ra_len hx hb hK hP 0 0 rfl rfl dAr_copyOf_2 ?_
  refine ri_ne (tgt := 14) hx hb dAr_copyOf_3 (by decide) (by omega) (by omega) (fun c_3 => ?_) (fun c_3 => absurd c_3 (by omega))
  refine lv_iload_n hx hb dAr_copyOf_14 rfl (lv_at hl 1 rfl) ?_
  refine rk_newb hx hb (hts _ gm_84) hK hP hD hS hA (by omega) (by show 0 + 1 ≤ 1; omega) (by show 0 + n ≤ n; omega) dAr_copyOf_15 (fun q H hP hD hS => ?_)
  have hP : va_P D vwCl [(a, .inl (k 0, n0, .inl (by_ f))), (q, .inl (k 0, n, .inl (by_ (fun _ => 0))))] H := hP
  have hD : va_D A [(a, .inl (k 0, n0, .inl (by_ f))), (q, .inl (k 0, n, .inl (by_ (fun _ => 0))))] := hD
  refine lv_astore_n (lv' := [(2, .ref q), (0, .ref a), (1, .int (nI n))]) hx hb dAr_copyOf_17 rfl hl (by decide) rfl (fun ls hl => ?_)
  refine lv_aload_n hx hb dAr_copyOf_18 rfl (lv_at hl 1 rfl) ?_
  refine lv_iconst (v := nI 0) hx hb dAr_copyOf_19 (by decide) ?_
  refine lv_aload_n hx hb dAr_copyOf_20 rfl (lv_at hl 0 rfl) ?_
  refine lv_iconst (v := nI 0) hx hb dAr_copyOf_21 (by decide) ?_
  refine lv_aload_n hx hb dAr_copyOf_22 rfl (lv_at hl 1 rfl) ?_
  refine ra_len hx hb hK hP 0 0 rfl rfl dAr_copyOf_23 ?_
  refine lv_iload_n hx hb dAr_copyOf_24 rfl (lv_at hl 2 rfl) ?_
  refine va_mmin hx hb (hml.trans hl.1.symm) hown (hts _ gm_200) (hts _ gm_201) (hts _ gm_62) (hts _ gm_202) (Nat.le_of_ble_eq_true rfl) (Nat.le_of_ble_eq_true rfl) (by show 0 + 1 ≤ 1; omega) (by show 0 + n ≤ n; omega) dAr_copyOf_25 ?_
  rw [rmin (by omega) (by omega)]
  refine rb_cp hx hb (hml.trans hl.1.symm) hown (hts _ gm_203) (hts _ gm_98) (hts _ gm_97) (hts _ gm_54) hK hP hD hS 0 1 0 0 rfl rfl rfl rfl (by omega) (by omega) (by omega) (by omega) (Nat.le_of_ble_eq_true rfl) (Nat.le_of_ble_eq_true rfl) dAr_copyOf_28 (fun H locs hP hD hS => ?_)
  have hP : va_P D vwCl [(a, .inl (k 0, n0, .inl (by_ f))), (q, .inl (k 0, n, .inl (by_ (va_cpy f (fun _ => 0) 0 0 (min n0 n)))))] H := hP
  have hD : va_D A [(a, .inl (k 0, n0, .inl (by_ f))), (q, .inl (k 0, n, .inl (by_ (va_cpy f (fun _ => 0) 0 0 (min n0 n)))))] := hD
  refine lv_aload_n hx hb dAr_copyOf_31 rfl (lv_at hl 0 rfl) ?_
  refine W.widen (k := 1) (n := n) (by omega) (by omega) ?_
  exact W.aret (v := .ref q) hx hb hr (Or.inr ⟨_, rfl⟩) (Or.inr ⟨_, rfl⟩) (fun t ht hW => ⟨⟨(), q, rfl, trivial, by rw [ht]; exact hP, hD⟩, hS.F ht⟩) hS.2.2 dAr_copyOf_32
set_option maxHeartbeats 600000 in
set_option maxRecDepth 100000 in
/-- Row() -/
theorem c_Row_init (l : Launch) (D : va_G) (k : Nat → ClassId) (tb : Nat → Nat) (sz : Nat) (h : Nat) : Met l yRw_init wRw_init ({ frames := 1, cells := 1, slots := 64, locals := 20 }) (cP D k tb [(h, .inr (2, [.null, .int (nI 0)]))] sz [.ref h]) (va_Qv (fun (u : Nat) => True) (fun (u : Nat) (t : State) => va_P D vwCl [(h, .inr (2, [.ref u, .int (nI 0)])), (u, .inl (k 0, 64, .inl (by_ (fun _ => 0))))] t.heap ∧ va_D (va_A [(h, .inr (2, [.null, .int (nI 0)]))] sz) [(h, .inr (2, [.ref u, .int (nI 0)])), (u, .inl (k 0, 64, .inl (by_ (fun _ => 0))))]) (va_A [(h, .inr (2, [.null, .int (nI 0)]))] sz)) (1) (64) (va_A [(h, .inr (2, [.null, .int (nI 0)]))] sz) := by
  refine Met.ofW (cc := cRw_init) (maxL := 1) (ret := none) (by decide) rfl ?_
  intro p e s m args below meth c s₁ B hml hv
  obtain ⟨rfl, hsz, hP, hK, hD0, hG⟩ := hv
  have hx := B.exec
  have hb := B.bytes
  have hr := B.returns
  have hts : ∀ w ∈ GT, w.before _ s = true := fun w h => atoms_spec (ws := wRw_init) B.pre w (List.mem_cons_of_mem _ h)
  have hown : s.vm.findClass R_Rw = some m.cls := findClass_of_methodNamed B.named
  have hlocks := B.notSynchronized
  have hin : meth.name = "<init>" := (name_of_methodNamed B.named B.method).1
  subst hsz
  have hD := hD0.self (sz := s.heap.size)
  generalize hAe : va_A [(h, .inr (2, [.null, .int (nI 0)]))] s.heap.size = A at hD hG ⊢
  have hA : ∀ q : Nat, s.heap.size ≤ q → A q := fun q h => by rw [← hAe]; exact Or.inr h
  have hl := lv_entry ([.ref h]) (n := 1) (Nat.le_of_ble_eq_true rfl)
  rw [lg_entry_eq]
  generalize (lg_sl ([.ref h]) ++ List.replicate (1 - (lg_sl ([.ref h])).length) Slot.unset).toArray = ls at hl ⊢
  have hl : lv_has ls 1 [(0, .ref h)] := hl
  refine cw_start (A := A) hP (fun H locs hP hS => ?_)
  refine lv_aload_n hx hb dRw_init_0 rfl (lv_at hl 0 rfl) ?_
  refine W.objInit hx hb hown (hts _ gm_79) (hts _ gm_73) (hts _ gm_74) rfl (by rw [hml]; exact hl.1) rfl dRw_init_1 (Nat.le_of_ble_eq_true rfl) (Nat.le_of_ble_eq_true rfl) ?_
  refine W.eq (g2 := F0 m 4 ls []) rfl ?_
  refine lv_aload_n hx hb dRw_init_4 rfl (lv_at hl 0 rfl) ?_
  refine lv_bipush (v := nI 64) hx hb dRw_init_5 (by decide) ?_
  refine rk_newb hx hb (hts _ gm_84) hK hP hD hS hA (by omega) (by show 0 + 1 ≤ 1; omega) (by show 0 + 64 ≤ 64; omega) dRw_init_7 (fun q H hP hD hS => ?_)
  have hP : va_P D vwCl [(h, .inr (2, [.null, .int (nI 0)])), (q, .inl (k 0, 64, .inl (by_ (fun _ => 0))))] H := hP
  have hD : va_D A [(h, .inr (2, [.null, .int (nI 0)])), (q, .inl (k 0, 64, .inl (by_ (fun _ => 0))))] := hD
  refine va_put (D := D) (ci := 2) (v := .ref q) (ty := .array .byte) (C := R_Rw) (T := T_Rw) (N := 2) hx hb hts in_Rw t_Rw tk_Rw nm_Rw hown hK hP hD hS 0 rfl rfl 0 (by decide) (hts _ gm_80) (fun _ h9 => h9) rfl (by decide +kernel) rfl rfl (Nat.le_of_ble_eq_true rfl) dRw_init_9 (fun H locs hP hD hS => ?_)
  have hP : va_P D vwCl [(h, .inr (2, [.ref q, .int (nI 0)])), (q, .inl (k 0, 64, .inl (by_ (fun _ => 0))))] H := hP
  have hD : va_D A [(h, .inr (2, [.ref q, .int (nI 0)])), (q, .inl (k 0, 64, .inl (by_ (fun _ => 0))))] := hD
  refine W.widen (k := 1) (n := 64) (by omega) (by omega) ?_
  exact W.vret hx hb hr (fun t ht hW => ⟨⟨q, rfl, trivial, by rw [ht]; exact hP, hD⟩, hS.F ht⟩) hS.2.2 dRw_init_12
set_option maxHeartbeats 600000 in
set_option maxRecDepth 100000 in
/-- Row.makeRoom -/
theorem c_Row_makeRoom (l : Launch) (D : va_G) (k : Nat → ClassId) (tb : Nat → Nat) (sz : Nat) (h b cap len wn : Nat) (f : Nat → Int8) (hc : 0 < cap) (hc2 : cap ≤ 100000000) (hw : wn ≤ 100000000) : Met l yRw_makeRoom wRw_makeRoom ({ frames := 2, cells := gc cap wn - cap, slots := 2 * (gc cap wn - cap), locals := 82 }) (cP D k tb [(h, .inr (2, [.ref b, .int (nI len)])), (b, .inl (k 0, cap, .inl (by_ f)))] sz [.ref h, .int (nI wn)]) (va_Qv (fun (u : Nat × (Nat → Int8)) => ∀ j, j < cap → u.2 j = f j) (fun (u : Nat × (Nat → Int8)) (t : State) => va_P D vwCl [(h, .inr (2, [.ref u.1, .int (nI len)])), (u.1, .inl (k 0, gc cap wn, .inl (by_ u.2)))] t.heap ∧ va_D (va_A [(h, .inr (2, [.ref b, .int (nI len)])), (b, .inl (k 0, cap, .inl (by_ f)))] sz) [(h, .inr (2, [.ref u.1, .int (nI len)])), (u.1, .inl (k 0, gc cap wn, .inl (by_ u.2)))]) (va_A [(h, .inr (2, [.ref b, .int (nI len)])), (b, .inl (k 0, cap, .inl (by_ f)))] sz)) (gc cap wn - cap) (2 * (gc cap wn - cap)) (va_A [(h, .inr (2, [.ref b, .int (nI len)])), (b, .inl (k 0, cap, .inl (by_ f)))] sz) := by
  refine Met.ofW (cc := cRw_makeRoom) (maxL := 2) (ret := none) (by decide) rfl ?_
  intro p e s m args below meth c s₁ B hml hv
  obtain ⟨rfl, hsz, hP, hK, hD0, hG⟩ := hv
  have hx := B.exec
  have hb := B.bytes
  have hr := B.returns
  have hts : ∀ w ∈ GT, w.before _ s = true := fun w h => atoms_spec (ws := wRw_makeRoom) B.pre w (List.mem_cons_of_mem _ h)
  have hown : s.vm.findClass R_Rw = some m.cls := findClass_of_methodNamed B.named
  have hlocks := B.notSynchronized
  subst hsz
  have hD := hD0.self (sz := s.heap.size)
  generalize hAe : va_A [(h, .inr (2, [.ref b, .int (nI len)])), (b, .inl (k 0, cap, .inl (by_ f)))] s.heap.size = A at hD hG ⊢
  have hA : ∀ q : Nat, s.heap.size ≤ q → A q := fun q h => by rw [← hAe]; exact Or.inr h
  have hl := lv_entry ([.ref h, .int (nI wn)]) (n := 2) (Nat.le_of_ble_eq_true rfl)
  rw [lg_entry_eq]
  generalize (lg_sl ([.ref h, .int (nI wn)]) ++ List.replicate (2 - (lg_sl ([.ref h, .int (nI wn)])).length) Slot.unset).toArray = ls at hl ⊢
  have hl : lv_has ls 2 [(0, .ref h), (1, .int (nI wn))] := hl
  refine cw_start (A := A) hP (fun H locs hP hS => ?_)
  refine lv_iload_n hx hb dRw_makeRoom_0 rfl (lv_at hl 1 rfl) ?_
  refine lv_aload_n hx hb dRw_makeRoom_1 rfl (lv_at hl 0 rfl) ?_
  refine va_get (D := D) (ci := 2) (v := .ref b) (C := R_Rw) (T := T_Rw) (N := 2) hx hb hts in_Rw hown hK hP 0 rfl rfl 0 (by decide) (hts _ gm_80) (fun _ h9 => h9) rfl dRw_makeRoom_2 ?_
  refine ra_len hx hb hK hP 1 0 rfl rfl dRw_makeRoom_5 ?_
  refine ri_le (tgt := 31) hx hb dRw_makeRoom_6 (by decide) (by omega) (by omega) (fun c_6 => ?_) (fun c_6 => ?_)
  · skip
    have eg : gc cap wn = cap := by unfold gc; rw [if_pos (by omega)]
    rw [← eg] at hP hD
    refine W.widen (k := gc cap wn - cap) (n := 2 * (gc cap wn - cap)) (by omega) (by omega) ?_
    exact W.vret hx hb hr (fun t ht hW => ⟨⟨(b, f), rfl, (fun j hj => rfl), by rw [ht]; exact hP, hD⟩, hS.F ht⟩) hS.2.2 dRw_makeRoom_31
  · skip
    have eg : gc cap wn = max wn (2 * cap) := by unfold gc; rw [if_neg (by omega)]
    refine lv_aload_n hx hb dRw_makeRoom_9 rfl (lv_at hl 0 rfl) ?_
    refine lv_aload_n hx hb dRw_makeRoom_10 rfl (lv_at hl 0 rfl) ?_
    refine va_get (D := D) (ci := 2) (v := .ref b) (C := R_Rw) (T := T_Rw) (N := 2) hx hb hts in_Rw hown hK hP 0 rfl rfl 0 (by decide) (hts _ gm_80) (fun _ h9 => h9) rfl dRw_makeRoom_11 ?_
    refine lv_iload_n hx hb dRw_makeRoom_14 rfl (lv_at hl 1 rfl) ?_
    refine lv_iconst (v := nI 2) hx hb dRw_makeRoom_15 (by decide) ?_
    refine lv_aload_n hx hb dRw_makeRoom_16 rfl (lv_at hl 0 rfl) ?_
    refine va_get (D := D) (ci := 2) (v := .ref b) (C := R_Rw) (T := T_Rw) (N := 2) hx hb hts in_Rw hown hK hP 0 rfl rfl 0 (by decide) (hts _ gm_80) (fun _ h9 => h9) rfl dRw_makeRoom_17 ?_
    refine ra_len hx hb hK hP 1 0 rfl rfl dRw_makeRoom_20 ?_
    refine ri_mul hx hb dRw_makeRoom_21 ?_
    refine va_mmax hx hb (hml.trans hl.1.symm) hown (hts _ gm_191) (hts _ gm_192) (hts _ gm_62) (hts _ gm_193) (Nat.le_of_ble_eq_true rfl) (Nat.le_of_ble_eq_true rfl) (Nat.zero_le _) (Nat.zero_le _) dRw_makeRoom_22 ?_
    rw [rmax (by omega) (by omega)]
    refine rc_r (wr := [(h, .inr (2, [.ref b, .int (nI len)]))]) (va_runS (As := [.ref b, .int (nI (max wn (2 * cap)))]) (rest := [.ref h]) ⟨hx, hb, hml, hown, hts⟩ (c_copyOf l D k tb H.size b cap (max wn (2 * cap)) f (by omega) (by omega)) (va_cwS 2 hts (gS gm_194 gm_195 gm_63 gm_196) rfl rfl rfl (by decide +kernel) ⟨Nat.le_of_ble_eq_true rfl, Nat.le_of_ble_eq_true rfl⟩) (cP_S hP hD hK hG hS hA [1] (by decide) rfl) rfl rfl hl.1 rfl (lv_room (Nat.le_of_ble_eq_true rfl)) dRw_makeRoom_25 ⟨by show 0 + 1 ≤ gc cap wn - cap; omega, by show 0 + (max wn (2 * cap)) ≤ 2 * (gc cap wn - cap); omega⟩) hS hA hP hD [1] [0] rfl rfl (by decide) (by decide) (fun u q H locs hw hP hD hS => ?_)
    have hP : va_P D vwCl [(h, .inr (2, [.ref b, .int (nI len)])), (b, .inl (k 0, cap, .inl (by_ f))), (q, .inl (k 0, max wn (2 * cap), .inl (by_ (va_cpy f (fun _ => 0) 0 0 (min cap (max wn (2 * cap)))))))] H := hP
    have hD : va_D A [(h, .inr (2, [.ref b, .int (nI len)])), (b, .inl (k 0, cap, .inl (by_ f))), (q, .inl (k 0, max wn (2 * cap), .inl (by_ (va_cpy f (fun _ => 0) 0 0 (min cap (max wn (2 * cap)))))))] := hD
    refine va_put (D := D) (ci := 2) (v := .ref q) (ty := .array .byte) (C := R_Rw) (T := T_Rw) (N := 2) hx hb hts in_Rw t_Rw tk_Rw nm_Rw hown hK hP hD hS 0 rfl rfl 0 (by decide) (hts _ gm_80) (fun _ h9 => h9) rfl (by decide +kernel) rfl rfl (Nat.le_of_ble_eq_true rfl) dRw_makeRoom_28 (fun H locs hP hD hS => ?_)
    have hP : va_P D vwCl [(h, .inr (2, [.ref q, .int (nI len)])), (b, .inl (k 0, cap, .inl (by_ f))), (q, .inl (k 0, max wn (2 * cap), .inl (by_ (va_cpy f (fun _ => 0) 0 0 (min cap (max wn (2 * cap)))))))] H := hP
    have hD : va_D A [(h, .inr (2, [.ref q, .int (nI len)])), (b, .inl (k 0, cap, .inl (by_ f))), (q, .inl (k 0, max wn (2 * cap), .inl (by_ (va_cpy f (fun _ => 0) 0 0 (min cap (max wn (2 * cap)))))))] := hD
    obtain ⟨fq, efq, hP, hD⟩ : ∃ z, z = va_cpy f (fun _ => 0) 0 0 (min cap (max wn (2 * cap))) ∧ va_P D vwCl [(h, .inr (2, [.ref q, .int (nI len)])), (b, .inl (k 0, cap, .inl (by_ f))), (q, .inl (k 0, max wn (2 * cap), .inl (by_ z)))] H ∧ va_D A [(h, .inr (2, [.ref q, .int (nI len)])), (b, .inl (k 0, cap, .inl (by_ f))), (q, .inl (k 0, max wn (2 * cap), .inl (by_ z)))] := ⟨_, rfl, hP, hD⟩
    rw [← eg] at hP hD
    have hP := hP.sub (ws' := [(h, .inr (2, [.ref q, .int (nI len)])), (q, .inl (k 0, gc cap wn, .inl (by_ fq)))]) [0, 2] rfl
    have hD := hD.sub (ws' := [(h, .inr (2, [.ref q, .int (nI len)])), (q, .inl (k 0, gc cap wn, .inl (by_ fq)))]) [0, 2] (by decide) rfl
    refine W.widen (k := gc cap wn - cap) (n := 2 * (gc cap wn - cap)) (by omega) (by omega) ?_
    exact W.vret hx hb hr (fun t ht hW => ⟨⟨(q, fq), rfl, (fun j hj => by show fq j = f j; rw [efq, pk_cpy_in (Nat.zero_le j) (by omega)]; simp), by rw [ht]; exact hP, hD⟩, hS.F ht⟩) hS.2.2 dRw_makeRoom_31
set_option maxHeartbeats 600000 in
set_option maxRecDepth 100000 in
/-- Row.appendByte -/
theorem c_Row_appendByte (l : Launch) (D : va_G) (k : Nat → ClassId) (tb : Nat → Nat) (sz : Nat) (h b cap len : Nat) (v : Int32) (f : Nat → Int8) (hc : 0 < cap) (hc2 : cap ≤ 100000000) (hl : len ≤ cap) (hl2 : len < 50000000) : Met l yRw_appendByte wRw_appendByte ({ frames := 3, cells := gc cap (len + 1) - cap, slots := 2 * (gc cap (len + 1) - cap), locals := 103 }) (cP D k tb [(h, .inr (2, [.ref b, .int (nI len)])), (b, .inl (k 0, cap, .inl (by_ f)))] sz [.ref h, .int v]) (va_Qv (fun (u : Nat × (Nat → Int8)) => (∀ j, j < len → u.2 j = f j) ∧ u.2 len = v.toInt8) (fun (u : Nat × (Nat → Int8)) (t : State) => va_P D vwCl [(h, .inr (2, [.ref u.1, .int (nI (len + 1))])), (u.1, .inl (k 0, gc cap (len + 1), .inl (by_ u.2)))] t.heap ∧ va_D (va_A [(h, .inr (2, [.ref b, .int (nI len)])), (b, .inl (k 0, cap, .inl (by_ f)))] sz) [(h, .inr (2, [.ref u.1, .int (nI (len + 1))])), (u.1, .inl (k 0, gc cap (len + 1), .inl (by_ u.2)))]) (va_A [(h, .inr (2, [.ref b, .int (nI len)])), (b, .inl (k 0, cap, .inl (by_ f)))] sz)) (gc cap (len + 1) - cap) (2 * (gc cap (len + 1) - cap)) (va_A [(h, .inr (2, [.ref b, .int (nI len)])), (b, .inl (k 0, cap, .inl (by_ f)))] sz) := by
  refine Met.ofW (cc := cRw_appendByte) (maxL := 2) (ret := none) (by decide) rfl ?_
  intro p e s m args below meth c s₁ B hml hv
  obtain ⟨rfl, hsz, hP, hK, hD0, hG⟩ := hv
  have hx := B.exec
  have hb := B.bytes
  have hr := B.returns
  have hts : ∀ w ∈ GT, w.before _ s = true := fun w h => atoms_spec (ws := wRw_appendByte) B.pre w (List.mem_cons_of_mem _ h)
  have hown : s.vm.findClass R_Rw = some m.cls := findClass_of_methodNamed B.named
  have hlocks := B.notSynchronized
  subst hsz
  have hD := hD0.self (sz := s.heap.size)
  generalize hAe : va_A [(h, .inr (2, [.ref b, .int (nI len)])), (b, .inl (k 0, cap, .inl (by_ f)))] s.heap.size = A at hD hG ⊢
  have hA : ∀ q : Nat, s.heap.size ≤ q → A q := fun q h => by rw [← hAe]; exact Or.inr h
  have hl := lv_entry ([.ref h, .int v]) (n := 2) (Nat.le_of_ble_eq_true rfl)
  rw [lg_entry_eq]
  generalize (lg_sl ([.ref h, .int v]) ++ List.replicate (2 - (lg_sl ([.ref h, .int v])).length) Slot.unset).toArray = ls at hl ⊢
  have hl : lv_has ls 2 [(0, .ref h), (1, .int v)] := hl
  refine cw_start (A := A) hP (fun H locs hP hS => ?_)
  refine lv_aload_n hx hb dRw_appendByte_0 rfl (lv_at hl 0 rfl) ?_
  refine lv_aload_n hx hb dRw_appendByte_1 rfl (lv_at hl 0 rfl) ?_
  refine va_get (D := D) (ci := 2) (v := .int (nI len)) (C := R_Rw) (T := T_Rw) (N := 2) hx hb hts in_Rw hown hK hP 0 rfl rfl 1 (by decide) (hts _ gm_81) (fun _ h9 => h9) rfl dRw_appendByte_2 ?_
  refine lv_iconst (v := nI 1) hx hb dRw_appendByte_5 (by decide) ?_
  refine ri_add hx hb dRw_appendByte_6 ?_
  refine rc_v (wr := []) (va_runV (As := [.int (nI (len + 1))]) (rest := []) ⟨hx, hb, hml, hown, hts⟩ (c_Row_makeRoom l D k tb H.size h b cap len (len + 1) f (by omega) (by omega) (by omega)) (cwV 1 hts (gV gm_188 gm_189 gm_2 gm_51 gm_190) rfl rfl rfl (by decide +kernel) ⟨Nat.le_of_ble_eq_true rfl, Nat.le_of_ble_eq_true rfl⟩) (cP_V hP hD hK hG hS hA [0, 1] (by decide) rfl (ci := 2) (q0 := 0) rfl rfl) rfl rfl hl.1 rfl (lv_room (Nat.le_of_ble_eq_true rfl)) dRw_appendByte_7 ⟨by show 0 + (gc cap (len + 1) - cap) ≤ gc cap (len + 1) - cap; omega, by show 0 + (2 * (gc cap (len + 1) - cap)) ≤ 2 * (gc cap (len + 1) - cap); omega⟩) hS hA hP hD [0, 1] [] rfl rfl (by decide) (by decide) (fun u9 H locs hw hP hD hS => ?_)
  obtain ⟨b1, f1⟩ := u9
  have hP : va_P D vwCl [(h, .inr (2, [.ref b1, .int (nI len)])), (b1, .inl (k 0, gc cap (len + 1), .inl (by_ f1)))] H := hP
  have hD : va_D A [(h, .inr (2, [.ref b1, .int (nI len)])), (b1, .inl (k 0, gc cap (len + 1), .inl (by_ f1)))] := hD
  have hw : ∀ j, j < cap → f1 j = f j := hw
  have hge := gc_ge cap (len + 1)
  have hgl := gc_le cap (len + 1)
  have hgt : gc cap (len + 1) ≤ 200000000 := gc_lt (by omega) (by omega)
  refine lv_aload_n hx hb dRw_appendByte_10 rfl (lv_at hl 0 rfl) ?_
  refine va_get (D := D) (ci := 2) (v := .ref b1) (C := R_Rw) (T := T_Rw) (N := 2) hx hb hts in_Rw hown hK hP 0 rfl rfl 0 (by decide) (hts _ gm_80) (fun _ h9 => h9) rfl dRw_appendByte_11 ?_
  refine lv_aload_n hx hb dRw_appendByte_14 rfl (lv_at hl 0 rfl) ?_
  refine va_get (D := D) (ci := 2) (v := .int (nI len)) (C := R_Rw) (T := T_Rw) (N := 2) hx hb hts in_Rw hown hK hP 0 rfl rfl 1 (by decide) (hts _ gm_81) (fun _ h9 => h9) rfl dRw_appendByte_15 ?_
  refine lv_iload_n hx hb dRw_appendByte_18 rfl (lv_at hl 1 rfl) ?_
  refine lv_i2b (v := v.toInt8.toInt32) hx hb dRw_appendByte_19 rfl ?_
  refine rb_st (z := v.toInt8) hx hb hK hP hD hS 1 0 rfl rfl (by omega) (by omega) dRw_appendByte_20 (fun H locs hP hD hS => ?_)
  have hP : va_P D vwCl [(h, .inr (2, [.ref b1, .int (nI len)])), (b1, .inl (k 0, gc cap (len + 1), .inl (by_ (va_up f1 len v.toInt8))))] H := hP
  have hD : va_D A [(h, .inr (2, [.ref b1, .int (nI len)])), (b1, .inl (k 0, gc cap (len + 1), .inl (by_ (va_up f1 len v.toInt8))))] := hD
  refine lv_aload_n hx hb dRw_appendByte_21 rfl (lv_at hl 0 rfl) ?_
  refine lv_dup hx hb dRw_appendByte_22 rfl ?_
  refine va_get (D := D) (ci := 2) (v := .int (nI len)) (C := R_Rw) (T := T_Rw) (N := 2) hx hb hts in_Rw hown hK hP 0 rfl rfl 1 (by decide) (hts _ gm_81) (fun _ h9 => h9) rfl dRw_appendByte_23 ?_
  refine lv_iconst (v := nI 1) hx hb dRw_appendByte_26 (by decide) ?_
  refine ri_add hx hb dRw_appendByte_27 ?_
  refine va_put (D := D) (ci := 2) (v := .int (nI (len + 1))) (ty := .int) (C := R_Rw) (T := T_Rw) (N := 2) hx hb hts in_Rw t_Rw tk_Rw nm_Rw hown hK hP hD hS 0 rfl rfl 1 (by decide) (hts _ gm_81) (fun _ h9 => h9) rfl (by decide +kernel) rfl rfl (Nat.le_of_ble_eq_true rfl) dRw_appendByte_28 (fun H locs hP hD hS => ?_)
  have hP : va_P D vwCl [(h, .inr (2, [.ref b1, .int (nI (len + 1))])), (b1, .inl (k 0, gc cap (len + 1), .inl (by_ (va_up f1 len v.toInt8))))] H := hP
  have hD : va_D A [(h, .inr (2, [.ref b1, .int (nI (len + 1))])), (b1, .inl (k 0, gc cap (len + 1), .inl (by_ (va_up f1 len v.toInt8))))] := hD
  refine W.widen (k := gc cap (len + 1) - cap) (n := 2 * (gc cap (len + 1) - cap)) (by omega) (by omega) ?_
  exact W.vret hx hb hr (fun t ht hW => ⟨⟨(b1, va_up f1 len v.toInt8), rfl, ⟨fun j hj => (va_up_ne _ _ (by omega)).trans (hw j (by omega)), va_up_self _ _ _⟩, by rw [ht]; exact hP, hD⟩, hS.F ht⟩) hS.2.2 dRw_appendByte_31
set_option maxHeartbeats 600000 in
set_option maxRecDepth 100000 in
/-- Row.appendNumber -/
theorem c_Row_appendNumber (l : Launch) (D : va_G) (k : Nat → ClassId) (tb : Nat → Nat) (sz : Nat) (h b cap len : Nat) (v : Int32) (f : Nat → Int8) (hc : 0 < cap) (hc2 : cap ≤ 100000000) (hl0 : len ≤ cap) (hl2 : len < 40000000) : Met l yRw_appendNumber wRw_appendNumber ({ frames := 4, cells := gcs cap len 4 - cap, slots := 2 * (gcs cap len 4 - cap), locals := 124 }) (cP D k tb [(h, .inr (2, [.ref b, .int (nI len)])), (b, .inl (k 0, cap, .inl (by_ f)))] sz [.ref h, .int v]) (va_Qv (fun (u : Nat × (Nat → Int8)) => (∀ j, j < len → u.2 j = f j) ∧ u.2 len = (iu v 24).toInt8 ∧ u.2 (len + 1) = (iu v 16).toInt8 ∧ u.2 (len + 2) = (iu v 8).toInt8 ∧ u.2 (len + 3) = v.toInt8) (fun (u : Nat × (Nat → Int8)) (t : State) => va_P D vwCl [(h, .inr (2, [.ref u.1, .int (nI (len + 4))])), (u.1, .inl (k 0, gcs cap len 4, .inl (by_ u.2)))] t.heap ∧ va_D (va_A [(h, .inr (2, [.ref b, .int (nI len)])), (b, .inl (k 0, cap, .inl (by_ f)))] sz) [(h, .inr (2, [.ref u.1, .int (nI (len + 4))])), (u.1, .inl (k 0, gcs cap len 4, .inl (by_ u.2)))]) (va_A [(h, .inr (2, [.ref b, .int (nI len)])), (b, .inl (k 0, cap, .inl (by_ f)))] sz)) (gcs cap len 4 - cap) (2 * (gcs cap len 4 - cap)) (va_A [(h, .inr (2, [.ref b, .int (nI len)])), (b, .inl (k 0, cap, .inl (by_ f)))] sz) := by
  refine Met.ofW (cc := cRw_appendNumber) (maxL := 2) (ret := none) (by decide) rfl ?_
  intro p e s m args below meth c s₁ B hml hv
  obtain ⟨rfl, hsz, hP, hK, hD0, hG⟩ := hv
  have hx := B.exec
  have hb := B.bytes
  have hr := B.returns
  have hts : ∀ w ∈ GT, w.before _ s = true := fun w h => atoms_spec (ws := wRw_appendNumber) B.pre w (List.mem_cons_of_mem _ h)
  have hown : s.vm.findClass R_Rw = some m.cls := findClass_of_methodNamed B.named
  have hlocks := B.notSynchronized
  subst hsz
  have hD := hD0.self (sz := s.heap.size)
  generalize hAe : va_A [(h, .inr (2, [.ref b, .int (nI len)])), (b, .inl (k 0, cap, .inl (by_ f)))] s.heap.size = A at hD hG ⊢
  have hA : ∀ q : Nat, s.heap.size ≤ q → A q := fun q h => by rw [← hAe]; exact Or.inr h
  have hl := lv_entry ([.ref h, .int v]) (n := 2) (Nat.le_of_ble_eq_true rfl)
  rw [lg_entry_eq]
  generalize (lg_sl ([.ref h, .int v]) ++ List.replicate (2 - (lg_sl ([.ref h, .int v])).length) Slot.unset).toArray = ls at hl ⊢
  have hl : lv_has ls 2 [(0, .ref h), (1, .int v)] := hl
  refine cw_start (A := A) hP (fun H locs hP hS => ?_)
  refine lv_aload_n hx hb dRw_appendNumber_0 rfl (lv_at hl 0 rfl) ?_
  refine lv_iload_n hx hb dRw_appendNumber_1 rfl (lv_at hl 1 rfl) ?_
  refine lv_bipush (v := 24) hx hb dRw_appendNumber_2 (by decide) ?_
  refine lv_iushr (v := iu v 24) hx hb dRw_appendNumber_4 rfl ?_
  have ga0 := gcs_ge (cap := cap) (len := len) hl0 0
  have gb0 : gcs cap len 0 ≤ 100000000 := gcs_lt hc2 0 (by omega)
  have gd0 : gcs cap len 0 ≤ gcs cap len 1 := gcs_le cap len 0
  have ge0 : gc (gcs cap len 0) (len + 1) = gcs cap len 1 := rfl
  have ga1 := gcs_ge (cap := cap) (len := len) hl0 1
  have gb1 : gcs cap len 1 ≤ 100000000 := gcs_lt hc2 1 (by omega)
  have gd1 : gcs cap len 1 ≤ gcs cap len 2 := gcs_le cap len 1
  have ge1 : gc (gcs cap len 1) (len + 1 + 1) = gcs cap len 2 := rfl
  have ga2 := gcs_ge (cap := cap) (len := len) hl0 2
  have gb2 : gcs cap len 2 ≤ 100000000 := gcs_lt hc2 2 (by omega)
  have gd2 : gcs cap len 2 ≤ gcs cap len 3 := gcs_le cap len 2
  have ge2 : gc (gcs cap len 2) (len + 2 + 1) = gcs cap len 3 := rfl
  have ga3 := gcs_ge (cap := cap) (len := len) hl0 3
  have gb3 : gcs cap len 3 ≤ 100000000 := gcs_lt hc2 3 (by omega)
  have gd3 : gcs cap len 3 ≤ gcs cap len 4 := gcs_le cap len 3
  have ge3 : gc (gcs cap len 3) (len + 3 + 1) = gcs cap len 4 := rfl
  have ga4 := gcs_ge (cap := cap) (len := len) hl0 4
  have gb4 : gcs cap len 4 ≤ 100000000 := gcs_lt hc2 4 (by omega)
  have gz : gcs cap len 0 = cap := rfl
  have hP : va_P D vwCl [(h, .inr (2, [.ref b, .int (nI len)])), (b, .inl (k 0, gcs cap len 0, .inl (by_ f)))] H := hP
  have hD : va_D A [(h, .inr (2, [.ref b, .int (nI len)])), (b, .inl (k 0, gcs cap len 0, .inl (by_ f)))] := hD
  refine rc_v (wr := []) (va_runV (As := [.int (iu v 24)]) (rest := []) ⟨hx, hb, hml, hown, hts⟩ (c_Row_appendByte l D k tb H.size h b (gcs cap len 0) (len) (iu v 24) f (by omega) (by omega) (by omega) (by omega)) (cwV 1 hts (gV gm_273 gm_274 gm_5 gm_51 gm_275) rfl rfl rfl (by decide +kernel) ⟨Nat.le_of_ble_eq_true rfl, Nat.le_of_ble_eq_true rfl⟩) (cP_V hP hD hK hG hS hA [0, 1] (by decide) rfl (ci := 2) (q0 := 0) rfl rfl) rfl rfl hl.1 rfl (lv_room (Nat.le_of_ble_eq_true rfl)) dRw_appendNumber_5 ⟨by show 0 + (gc (gcs cap len 0) (len + 1) - gcs cap len 0) ≤ gcs cap len 4 - cap; omega, by show 0 + (2 * (gc (gcs cap len 0) (len + 1) - gcs cap len 0)) ≤ 2 * (gcs cap len 4 - cap); omega⟩) hS hA hP hD [0, 1] [] rfl rfl (by decide) (by decide) (fun u9 H locs hw hP hD hS => ?_)
  obtain ⟨b1, f1⟩ := u9
  have hP : va_P D vwCl [(h, .inr (2, [.ref b1, .int (nI (len + 1))])), (b1, .inl (k 0, gc (gcs cap len 0) (len + 1), .inl (by_ f1)))] H := hP
  have hD : va_D A [(h, .inr (2, [.ref b1, .int (nI (len + 1))])), (b1, .inl (k 0, gc (gcs cap len 0) (len + 1), .inl (by_ f1)))] := hD
  have hw1 : (∀ j, j < len → f1 j = f j) ∧ f1 (len) = (iu v 24).toInt8 := hw
  have hP : va_P D vwCl [(h, .inr (2, [.ref b1, .int (nI (len + 1))])), (b1, .inl (k 0, gcs cap len 1, .inl (by_ f1)))] H := hP
  have hD : va_D A [(h, .inr (2, [.ref b1, .int (nI (len + 1))])), (b1, .inl (k 0, gcs cap len 1, .inl (by_ f1)))] := hD
  refine lv_aload_n hx hb dRw_appendNumber_8 rfl (lv_at hl 0 rfl) ?_
  refine lv_iload_n hx hb dRw_appendNumber_9 rfl (lv_at hl 1 rfl) ?_
  refine lv_bipush (v := 16) hx hb dRw_appendNumber_10 (by decide) ?_
  refine lv_iushr (v := iu v 16) hx hb dRw_appendNumber_12 rfl ?_
  refine rc_v (wr := []) (va_runV (As := [.int (iu v 16)]) (rest := []) ⟨hx, hb, hml, hown, hts⟩ (c_Row_appendByte l D k tb H.size h b1 (gcs cap len 1) (len + 1) (iu v 16) f1 (by omega) (by omega) (by omega) (by omega)) (cwV 1 hts (gV gm_273 gm_274 gm_5 gm_51 gm_275) rfl rfl rfl (by decide +kernel) ⟨Nat.le_of_ble_eq_true rfl, Nat.le_of_ble_eq_true rfl⟩) (cP_V hP hD hK hG hS hA [0, 1] (by decide) rfl (ci := 2) (q0 := 0) rfl rfl) rfl rfl hl.1 rfl (lv_room (Nat.le_of_ble_eq_true rfl)) dRw_appendNumber_13 ⟨by show 0 + (gc (gcs cap len 0) (len + 1) - gcs cap len 0) + (gc (gcs cap len 1) (len + 1 + 1) - gcs cap len 1) ≤ gcs cap len 4 - cap; omega, by show 0 + (2 * (gc (gcs cap len 0) (len + 1) - gcs cap len 0)) + (2 * (gc (gcs cap len 1) (len + 1 + 1) - gcs cap len 1)) ≤ 2 * (gcs cap len 4 - cap); omega⟩) hS hA hP hD [0, 1] [] rfl rfl (by decide) (by decide) (fun u9 H locs hw hP hD hS => ?_)
  obtain ⟨b2, f2⟩ := u9
  have hP : va_P D vwCl [(h, .inr (2, [.ref b2, .int (nI ((len + 1) + 1))])), (b2, .inl (k 0, gc (gcs cap len 1) (len + 1 + 1), .inl (by_ f2)))] H := hP
  have hD : va_D A [(h, .inr (2, [.ref b2, .int (nI ((len + 1) + 1))])), (b2, .inl (k 0, gc (gcs cap len 1) (len + 1 + 1), .inl (by_ f2)))] := hD
  have hw2 : (∀ j, j < len + 1 → f2 j = f1 j) ∧ f2 (len + 1) = (iu v 16).toInt8 := hw
  have hP : va_P D vwCl [(h, .inr (2, [.ref b2, .int (nI (len + 2))])), (b2, .inl (k 0, gcs cap len 2, .inl (by_ f2)))] H := hP
  have hD : va_D A [(h, .inr (2, [.ref b2, .int (nI (len + 2))])), (b2, .inl (k 0, gcs cap len 2, .inl (by_ f2)))] := hD
  refine lv_aload_n hx hb dRw_appendNumber_16 rfl (lv_at hl 0 rfl) ?_
  refine lv_iload_n hx hb dRw_appendNumber_17 rfl (lv_at hl 1 rfl) ?_
  refine lv_bipush (v := 8) hx hb dRw_appendNumber_18 (by decide) ?_
  refine lv_iushr (v := iu v 8) hx hb dRw_appendNumber_20 rfl ?_
  refine rc_v (wr := []) (va_runV (As := [.int (iu v 8)]) (rest := []) ⟨hx, hb, hml, hown, hts⟩ (c_Row_appendByte l D k tb H.size h b2 (gcs cap len 2) (len + 2) (iu v 8) f2 (by omega) (by omega) (by omega) (by omega)) (cwV 1 hts (gV gm_273 gm_274 gm_5 gm_51 gm_275) rfl rfl rfl (by decide +kernel) ⟨Nat.le_of_ble_eq_true rfl, Nat.le_of_ble_eq_true rfl⟩) (cP_V hP hD hK hG hS hA [0, 1] (by decide) rfl (ci := 2) (q0 := 0) rfl rfl) rfl rfl hl.1 rfl (lv_room (Nat.le_of_ble_eq_true rfl)) dRw_appendNumber_21 ⟨by show 0 + (gc (gcs cap len 0) (len + 1) - gcs cap len 0) + (gc (gcs cap len 1) (len + 1 + 1) - gcs cap len 1) + (gc (gcs cap len 2) (len + 2 + 1) - gcs cap len 2) ≤ gcs cap len 4 - cap; omega, by show 0 + (2 * (gc (gcs cap len 0) (len + 1) - gcs cap len 0)) + (2 * (gc (gcs cap len 1) (len + 1 + 1) - gcs cap len 1)) + (2 * (gc (gcs cap len 2) (len + 2 + 1) - gcs cap len 2)) ≤ 2 * (gcs cap len 4 - cap); omega⟩) hS hA hP hD [0, 1] [] rfl rfl (by decide) (by decide) (fun u9 H locs hw hP hD hS => ?_)
  obtain ⟨b3, f3⟩ := u9
  have hP : va_P D vwCl [(h, .inr (2, [.ref b3, .int (nI ((len + 2) + 1))])), (b3, .inl (k 0, gc (gcs cap len 2) (len + 2 + 1), .inl (by_ f3)))] H := hP
  have hD : va_D A [(h, .inr (2, [.ref b3, .int (nI ((len + 2) + 1))])), (b3, .inl (k 0, gc (gcs cap len 2) (len + 2 + 1), .inl (by_ f3)))] := hD
  have hw3 : (∀ j, j < len + 2 → f3 j = f2 j) ∧ f3 (len + 2) = (iu v 8).toInt8 := hw
  have hP : va_P D vwCl [(h, .inr (2, [.ref b3, .int (nI (len + 3))])), (b3, .inl (k 0, gcs cap len 3, .inl (by_ f3)))] H := hP
  have hD : va_D A [(h, .inr (2, [.ref b3, .int (nI (len + 3))])), (b3, .inl (k 0, gcs cap len 3, .inl (by_ f3)))] := hD
  refine lv_aload_n hx hb dRw_appendNumber_24 rfl (lv_at hl 0 rfl) ?_
  refine lv_iload_n hx hb dRw_appendNumber_25 rfl (lv_at hl 1 rfl) ?_
  refine rc_v (wr := []) (va_runV (As := [.int v]) (rest := []) ⟨hx, hb, hml, hown, hts⟩ (c_Row_appendByte l D k tb H.size h b3 (gcs cap len 3) (len + 3) v f3 (by omega) (by omega) (by omega) (by omega)) (cwV 1 hts (gV gm_273 gm_274 gm_5 gm_51 gm_275) rfl rfl rfl (by decide +kernel) ⟨Nat.le_of_ble_eq_true rfl, Nat.le_of_ble_eq_true rfl⟩) (cP_V hP hD hK hG hS hA [0, 1] (by decide) rfl (ci := 2) (q0 := 0) rfl rfl) rfl rfl hl.1 rfl (lv_room (Nat.le_of_ble_eq_true rfl)) dRw_appendNumber_26 ⟨by show 0 + (gc (gcs cap len 0) (len + 1) - gcs cap len 0) + (gc (gcs cap len 1) (len + 1 + 1) - gcs cap len 1) + (gc (gcs cap len 2) (len + 2 + 1) - gcs cap len 2) + (gc (gcs cap len 3) (len + 3 + 1) - gcs cap len 3) ≤ gcs cap len 4 - cap; omega, by show 0 + (2 * (gc (gcs cap len 0) (len + 1) - gcs cap len 0)) + (2 * (gc (gcs cap len 1) (len + 1 + 1) - gcs cap len 1)) + (2 * (gc (gcs cap len 2) (len + 2 + 1) - gcs cap len 2)) + (2 * (gc (gcs cap len 3) (len + 3 + 1) - gcs cap len 3)) ≤ 2 * (gcs cap len 4 - cap); omega⟩) hS hA hP hD [0, 1] [] rfl rfl (by decide) (by decide) (fun u9 H locs hw hP hD hS => ?_)
  obtain ⟨b4, f4⟩ := u9
  have hP : va_P D vwCl [(h, .inr (2, [.ref b4, .int (nI ((len + 3) + 1))])), (b4, .inl (k 0, gc (gcs cap len 3) (len + 3 + 1), .inl (by_ f4)))] H := hP
  have hD : va_D A [(h, .inr (2, [.ref b4, .int (nI ((len + 3) + 1))])), (b4, .inl (k 0, gc (gcs cap len 3) (len + 3 + 1), .inl (by_ f4)))] := hD
  have hw4 : (∀ j, j < len + 3 → f4 j = f3 j) ∧ f4 (len + 3) = (v).toInt8 := hw
  have hP : va_P D vwCl [(h, .inr (2, [.ref b4, .int (nI (len + 4))])), (b4, .inl (k 0, gcs cap len 4, .inl (by_ f4)))] H := hP
  have hD : va_D A [(h, .inr (2, [.ref b4, .int (nI (len + 4))])), (b4, .inl (k 0, gcs cap len 4, .inl (by_ f4)))] := hD
  have hpost : (∀ j, j < len → f4 j = f j) ∧ f4 len = (iu v 24).toInt8 ∧ f4 (len + 1) = (iu v 16).toInt8 ∧ f4 (len + 2) = (iu v 8).toInt8 ∧ f4 (len + 3) = v.toInt8 := ⟨fun j hj => by rw [hw4.1 j (by omega), hw3.1 j (by omega), hw2.1 j (by omega), hw1.1 j hj], by rw [hw4.1 _ (by omega), hw3.1 _ (by omega), hw2.1 _ (by omega), hw1.2], by rw [hw4.1 _ (by omega), hw3.1 _ (by omega), hw2.2], by rw [hw4.1 _ (by omega), hw3.2], hw4.2⟩
  refine W.widen (k := gcs cap len 4 - cap) (n := 2 * (gcs cap len 4 - cap)) (by omega) (by omega) ?_
  exact W.vret hx hb hr (fun t ht hW => ⟨⟨(b4, f4), rfl, hpost, by rw [ht]; exact hP, hD⟩, hS.F ht⟩) hS.2.2 dRw_appendNumber_29
set_option maxHeartbeats 600000 in
set_option maxRecDepth 100000 in
/-- Row.append, out of another array -/
theorem c_Row_append (l : Launch) (D : va_G) (k : Nat → ClassId) (tb : Nat → Nat) (sz : Nat) (h b a cap len n0 start many : Nat) (f g : Nat → Int8) (hc : 0 < cap) (hc2 : cap ≤ 100000000) (hl : len ≤ cap) (hl2 : len < 20000000) (hm : many < 20000000) (hs : start + many ≤ n0) (hn0 : n0 < 1000000000) : Met l yRw_append wRw_append ({ frames := 3, cells := gc cap (len + many) - cap, slots := 2 * (gc cap (len + many) - cap), locals := 103 }) (cP D k tb [(h, .inr (2, [.ref b, .int (nI len)])), (b, .inl (k 0, cap, .inl (by_ f))), (a, .inl (k 0, n0, .inl (by_ g)))] sz [.ref h, .ref a, .int (nI start), .int (nI many)]) (va_Qv (fun (u : Nat × (Nat → Int8)) => (∀ j, j < len → u.2 j = f j) ∧ ∀ j, j < many → u.2 (len + j) = g (start + j)) (fun (u : Nat × (Nat → Int8)) (t : State) => va_P D vwCl [(h, .inr (2, [.ref u.1, .int (nI (len + many))])), (u.1, .inl (k 0, gc cap (len + many), .inl (by_ u.2))), (a, .inl (k 0, n0, .inl (by_ g)))] t.heap ∧ va_D (va_A [(h, .inr (2, [.ref b, .int (nI len)])), (b, .inl (k 0, cap, .inl (by_ f))), (a, .inl (k 0, n0, .inl (by_ g)))] sz) [(h, .inr (2, [.ref u.1, .int (nI (len + many))])), (u.1, .inl (k 0, gc cap (len + many), .inl (by_ u.2))), (a, .inl (k 0, n0, .inl (by_ g)))]) (va_A [(h, .inr (2, [.ref b, .int (nI len)])), (b, .inl (k 0, cap, .inl (by_ f))), (a, .inl (k 0, n0, .inl (by_ g)))] sz)) (gc cap (len + many) - cap) (2 * (gc cap (len + many) - cap)) (va_A [(h, .inr (2, [.ref b, .int (nI len)])), (b, .inl (k 0, cap, .inl (by_ f))), (a, .inl (k 0, n0, .inl (by_ g)))] sz) := by
  refine Met.ofW (cc := cRw_append) (maxL := 4) (ret := none) (by decide) rfl ?_
  intro p e s m args below meth c s₁ B hml hv
  obtain ⟨rfl, hsz, hP, hK, hD0, hG⟩ := hv
  have hx := B.exec
  have hb := B.bytes
  have hr := B.returns
  have hts : ∀ w ∈ GT, w.before _ s = true := fun w h => atoms_spec (ws := wRw_append) B.pre w (List.mem_cons_of_mem _ h)
  have hown : s.vm.findClass R_Rw = some m.cls := findClass_of_methodNamed B.named
  have hlocks := B.notSynchronized
  subst hsz
  have hD := hD0.self (sz := s.heap.size)
  generalize hAe : va_A [(h, .inr (2, [.ref b, .int (nI len)])), (b, .inl (k 0, cap, .inl (by_ f))), (a, .inl (k 0, n0, .inl (by_ g)))] s.heap.size = A at hD hG ⊢
  have hA : ∀ q : Nat, s.heap.size ≤ q → A q := fun q h => by rw [← hAe]; exact Or.inr h
  have hl := lv_entry ([.ref h, .ref a, .int (nI start), .int (nI many)]) (n := 4) (Nat.le_of_ble_eq_true rfl)
  rw [lg_entry_eq]
  generalize (lg_sl ([.ref h, .ref a, .int (nI start), .int (nI many)]) ++ List.replicate (4 - (lg_sl ([.ref h, .ref a, .int (nI start), .int (nI many)])).length) Slot.unset).toArray = ls at hl ⊢
  have hl : lv_has ls 4 [(0, .ref h), (1, .ref a), (2, .int (nI start)), (3, .int (nI many))] := hl
  refine cw_start (A := A) hP (fun H locs hP hS => ?_)
  refine lv_aload_n hx hb dRw_append_0 rfl (lv_at hl 0 rfl) ?_
  refine lv_aload_n hx hb dRw_append_1 rfl (lv_at hl 0 rfl) ?_
  refine va_get (D := D) (ci := 2) (v := .int (nI len)) (C := R_Rw) (T := T_Rw) (N := 2) hx hb hts in_Rw hown hK hP 0 rfl rfl 1 (by decide) (hts _ gm_81) (fun _ h9 => h9) rfl dRw_append_2 ?_
  refine lv_iload_n hx hb dRw_append_5 rfl (lv_at hl 3 rfl) ?_
  refine ri_add hx hb dRw_append_6 ?_
  refine rc_v (wr := [(a, .inl (k 0, n0, .inl (by_ g)))]) (va_runV (As := [.int (nI (len + many))]) (rest := []) ⟨hx, hb, hml, hown, hts⟩ (c_Row_makeRoom l D k tb H.size h b cap len (len + many) f (by omega) (by omega) (by omega)) (cwV 1 hts (gV gm_188 gm_189 gm_2 gm_51 gm_190) rfl rfl rfl (by decide +kernel) ⟨Nat.le_of_ble_eq_true rfl, Nat.le_of_ble_eq_true rfl⟩) (cP_V hP hD hK hG hS hA [0, 1] (by decide) rfl (ci := 2) (q0 := 0) rfl rfl) rfl rfl hl.1 rfl (lv_room (Nat.le_of_ble_eq_true rfl)) dRw_append_7 ⟨by show 0 + (gc cap (len + many) - cap) ≤ gc cap (len + many) - cap; omega, by show 0 + (2 * (gc cap (len + many) - cap)) ≤ 2 * (gc cap (len + many) - cap); omega⟩) hS hA hP hD [0, 1] [2] rfl rfl (by decide) (by decide) (fun u9 H locs hw hP hD hS => ?_)
  obtain ⟨b1, f1⟩ := u9
  have hP : va_P D vwCl [(a, .inl (k 0, n0, .inl (by_ g))), (h, .inr (2, [.ref b1, .int (nI len)])), (b1, .inl (k 0, gc cap (len + many), .inl (by_ f1)))] H := hP
  have hD : va_D A [(a, .inl (k 0, n0, .inl (by_ g))), (h, .inr (2, [.ref b1, .int (nI len)])), (b1, .inl (k 0, gc cap (len + many), .inl (by_ f1)))] := hD
  have hw : ∀ j, j < cap → f1 j = f j := hw
  have hge := gc_ge cap (len + many)
  have hgl := gc_le cap (len + many)
  have hgt : gc cap (len + many) ≤ 200000000 := gc_lt (by omega) (by omega)
  refine lv_aload_n hx hb dRw_append_10 rfl (lv_at hl 1 rfl) ?_
  refine lv_iload_n hx hb dRw_append_11 rfl (lv_at hl 2 rfl) ?_
  refine lv_aload_n hx hb dRw_append_12 rfl (lv_at hl 0 rfl) ?_
  refine va_get (D := D) (ci := 2) (v := .ref b1) (C := R_Rw) (T := T_Rw) (N := 2) hx hb hts in_Rw hown hK hP 1 rfl rfl 0 (by decide) (hts _ gm_80) (fun _ h9 => h9) rfl dRw_append_13 ?_
  refine lv_aload_n hx hb dRw_append_16 rfl (lv_at hl 0 rfl) ?_
  refine va_get (D := D) (ci := 2) (v := .int (nI len)) (C := R_Rw) (T := T_Rw) (N := 2) hx hb hts in_Rw hown hK hP 1 rfl rfl 1 (by decide) (hts _ gm_81) (fun _ h9 => h9) rfl dRw_append_17 ?_
  refine lv_iload_n hx hb dRw_append_20 rfl (lv_at hl 3 rfl) ?_
  refine rb_cp hx hb (hml.trans hl.1.symm) hown (hts _ gm_204) (hts _ gm_98) (hts _ gm_97) (hts _ gm_54) hK hP hD hS 0 2 0 0 rfl rfl rfl rfl (by omega) (by omega) (by omega) (by omega) (Nat.le_of_ble_eq_true rfl) (Nat.le_of_ble_eq_true rfl) dRw_append_21 (fun H locs hP hD hS => ?_)
  have hP : va_P D vwCl [(a, .inl (k 0, n0, .inl (by_ g))), (h, .inr (2, [.ref b1, .int (nI len)])), (b1, .inl (k 0, gc cap (len + many), .inl (by_ (va_cpy g f1 start len many))))] H := hP
  have hD : va_D A [(a, .inl (k 0, n0, .inl (by_ g))), (h, .inr (2, [.ref b1, .int (nI len)])), (b1, .inl (k 0, gc cap (len + many), .inl (by_ (va_cpy g f1 start len many))))] := hD
  refine lv_aload_n hx hb dRw_append_24 rfl (lv_at hl 0 rfl) ?_
  refine lv_dup hx hb dRw_append_25 rfl ?_
  refine va_get (D := D) (ci := 2) (v := .int (nI len)) (C := R_Rw) (T := T_Rw) (N := 2) hx hb hts in_Rw hown hK hP 1 rfl rfl 1 (by decide) (hts _ gm_81) (fun _ h9 => h9) rfl dRw_append_26 ?_
  refine lv_iload_n hx hb dRw_append_29 rfl (lv_at hl 3 rfl) ?_
  refine ri_add hx hb dRw_append_30 ?_
  refine va_put (D := D) (ci := 2) (v := .int (nI (len + many))) (ty := .int) (C := R_Rw) (T := T_Rw) (N := 2) hx hb hts in_Rw t_Rw tk_Rw nm_Rw hown hK hP hD hS 1 rfl rfl 1 (by decide) (hts _ gm_81) (fun _ h9 => h9) rfl (by decide +kernel) rfl rfl (Nat.le_of_ble_eq_true rfl) dRw_append_31 (fun H locs hP hD hS => ?_)
  have hP : va_P D vwCl [(a, .inl (k 0, n0, .inl (by_ g))), (h, .inr (2, [.ref b1, .int (nI (len + many))])), (b1, .inl (k 0, gc cap (len + many), .inl (by_ (va_cpy g f1 start len many))))] H := hP
  have hD : va_D A [(a, .inl (k 0, n0, .inl (by_ g))), (h, .inr (2, [.ref b1, .int (nI (len + many))])), (b1, .inl (k 0, gc cap (len + many), .inl (by_ (va_cpy g f1 start len many))))] := hD
  have hP := hP.sub (ws' := [(h, .inr (2, [.ref b1, .int (nI (len + many))])), (b1, .inl (k 0, gc cap (len + many), .inl (by_ (va_cpy g f1 start len many)))), (a, .inl (k 0, n0, .inl (by_ g)))]) [1, 2, 0] rfl
  have hD := hD.sub (ws' := [(h, .inr (2, [.ref b1, .int (nI (len + many))])), (b1, .inl (k 0, gc cap (len + many), .inl (by_ (va_cpy g f1 start len many)))), (a, .inl (k 0, n0, .inl (by_ g)))]) [1, 2, 0] (by decide) rfl
  refine W.widen (k := gc cap (len + many) - cap) (n := 2 * (gc cap (len + many) - cap)) (by omega) (by omega) ?_
  exact W.vret hx hb hr (fun t ht hW => ⟨⟨(b1, va_cpy g f1 start len many), rfl, ⟨fun j hj => (pk_cpy_out (Or.inl hj)).trans (hw j (by omega)), fun j hj => (pk_cpy_in (by omega) (by omega)).trans (by rw [Nat.add_sub_cancel_left])⟩, by rw [ht]; exact hP, hD⟩, hS.F ht⟩) hS.2.2 dRw_append_34
set_option maxHeartbeats 600000 in
set_option maxRecDepth 100000 in
/-- Row.append, out of the label table -/
theorem c_Row_appendT (l : Launch) (D : va_G) (k : Nat → ClassId) (tb : Nat → Nat) (sz : Nat) (h b cap len start many : Nat) (f : Nat → Int8) (hc : 0 < cap) (hc2 : cap ≤ 100000000) (hl : len ≤ cap) (hl2 : len < 20000000) (hs : start + many ≤ 6) : Met l yRw_append wRw_append ({ frames := 3, cells := gc cap (len + many) - cap, slots := 2 * (gc cap (len + many) - cap), locals := 103 }) (cP D k tb [(h, .inr (2, [.ref b, .int (nI len)])), (b, .inl (k 0, cap, .inl (by_ f)))] sz [.ref h, .ref (tb 3), .int (nI start), .int (nI many)]) (va_Qv (fun (u : Nat × (Nat → Int8)) => (∀ j, j < len → u.2 j = f j) ∧ ∀ j, j < many → u.2 (len + j) = lblP (start + j)) (fun (u : Nat × (Nat → Int8)) (t : State) => va_P D vwCl [(h, .inr (2, [.ref u.1, .int (nI (len + many))])), (u.1, .inl (k 0, gc cap (len + many), .inl (by_ u.2)))] t.heap ∧ va_D (va_A [(h, .inr (2, [.ref b, .int (nI len)])), (b, .inl (k 0, cap, .inl (by_ f)))] sz) [(h, .inr (2, [.ref u.1, .int (nI (len + many))])), (u.1, .inl (k 0, gc cap (len + many), .inl (by_ u.2)))]) (va_A [(h, .inr (2, [.ref b, .int (nI len)])), (b, .inl (k 0, cap, .inl (by_ f)))] sz)) (gc cap (len + many) - cap) (2 * (gc cap (len + many) - cap)) (va_A [(h, .inr (2, [.ref b, .int (nI len)])), (b, .inl (k 0, cap, .inl (by_ f)))] sz) := by
  refine Met.ofW (cc := cRw_append) (maxL := 4) (ret := none) (by decide) rfl ?_
  intro p e s m args below meth c s₁ B hml hv
  obtain ⟨rfl, hsz, hP, hK, hD0, hG⟩ := hv
  have hx := B.exec
  have hb := B.bytes
  have hr := B.returns
  have hts : ∀ w ∈ GT, w.before _ s = true := fun w h => atoms_spec (ws := wRw_append) B.pre w (List.mem_cons_of_mem _ h)
  have hown : s.vm.findClass R_Rw = some m.cls := findClass_of_methodNamed B.named
  have hlocks := B.notSynchronized
  subst hsz
  have hD := hD0.self (sz := s.heap.size)
  generalize hAe : va_A [(h, .inr (2, [.ref b, .int (nI len)])), (b, .inl (k 0, cap, .inl (by_ f)))] s.heap.size = A at hD hG ⊢
  have hA : ∀ q : Nat, s.heap.size ≤ q → A q := fun q h => by rw [← hAe]; exact Or.inr h
  have hl := lv_entry ([.ref h, .ref (tb 3), .int (nI start), .int (nI many)]) (n := 4) (Nat.le_of_ble_eq_true rfl)
  rw [lg_entry_eq]
  generalize (lg_sl ([.ref h, .ref (tb 3), .int (nI start), .int (nI many)]) ++ List.replicate (4 - (lg_sl ([.ref h, .ref (tb 3), .int (nI start), .int (nI many)])).length) Slot.unset).toArray = ls at hl ⊢
  have hl : lv_has ls 4 [(0, .ref h), (1, .ref (tb 3)), (2, .int (nI start)), (3, .int (nI many))] := hl
  refine cw_start (A := A) hP (fun H locs hP hS => ?_)
  refine lv_aload_n hx hb dRw_append_0 rfl (lv_at hl 0 rfl) ?_
  refine lv_aload_n hx hb dRw_append_1 rfl (lv_at hl 0 rfl) ?_
  refine va_get (D := D) (ci := 2) (v := .int (nI len)) (C := R_Rw) (T := T_Rw) (N := 2) hx hb hts in_Rw hown hK hP 0 rfl rfl 1 (by decide) (hts _ gm_81) (fun _ h9 => h9) rfl dRw_append_2 ?_
  refine lv_iload_n hx hb dRw_append_5 rfl (lv_at hl 3 rfl) ?_
  refine ri_add hx hb dRw_append_6 ?_
  refine rc_v (wr := []) (va_runV (As := [.int (nI (len + many))]) (rest := []) ⟨hx, hb, hml, hown, hts⟩ (c_Row_makeRoom l D k tb H.size h b cap len (len + many) f (by omega) (by omega) (by omega)) (cwV 1 hts (gV gm_188 gm_189 gm_2 gm_51 gm_190) rfl rfl rfl (by decide +kernel) ⟨Nat.le_of_ble_eq_true rfl, Nat.le_of_ble_eq_true rfl⟩) (cP_V hP hD hK hG hS hA [0, 1] (by decide) rfl (ci := 2) (q0 := 0) rfl rfl) rfl rfl hl.1 rfl (lv_room (Nat.le_of_ble_eq_true rfl)) dRw_append_7 ⟨by show 0 + (gc cap (len + many) - cap) ≤ gc cap (len + many) - cap; omega, by show 0 + (2 * (gc cap (len + many) - cap)) ≤ 2 * (gc cap (len + many) - cap); omega⟩) hS hA hP hD [0, 1] [] rfl rfl (by decide) (by decide) (fun u9 H locs hw hP hD hS => ?_)
  obtain ⟨b1, f1⟩ := u9
  have hP : va_P D vwCl [(h, .inr (2, [.ref b1, .int (nI len)])), (b1, .inl (k 0, gc cap (len + many), .inl (by_ f1)))] H := hP
  have hD : va_D A [(h, .inr (2, [.ref b1, .int (nI len)])), (b1, .inl (k 0, gc cap (len + many), .inl (by_ f1)))] := hD
  have hw : ∀ j, j < cap → f1 j = f j := hw
  have hge := gc_ge cap (len + many)
  have hgl := gc_le cap (len + many)
  have hgt : gc cap (len + many) ≤ 200000000 := gc_lt (by omega) (by omega)
  refine lv_aload_n hx hb dRw_append_10 rfl (lv_at hl 1 rfl) ?_
  refine lv_iload_n hx hb dRw_append_11 rfl (lv_at hl 2 rfl) ?_
  refine lv_aload_n hx hb dRw_append_12 rfl (lv_at hl 0 rfl) ?_
  refine va_get (D := D) (ci := 2) (v := .ref b1) (C := R_Rw) (T := T_Rw) (N := 2) hx hb hts in_Rw hown hK hP 0 rfl rfl 0 (by decide) (hts _ gm_80) (fun _ h9 => h9) rfl dRw_append_13 ?_
  refine lv_aload_n hx hb dRw_append_16 rfl (lv_at hl 0 rfl) ?_
  refine va_get (D := D) (ci := 2) (v := .int (nI len)) (C := R_Rw) (T := T_Rw) (N := 2) hx hb hts in_Rw hown hK hP 0 rfl rfl 1 (by decide) (hts _ gm_81) (fun _ h9 => h9) rfl dRw_append_17 ?_
  refine lv_iload_n hx hb dRw_append_20 rfl (lv_at hl 3 rfl) ?_
  refine rt_cpb hx hb (hml.trans hl.1.symm) hown (hts _ gm_204) (hts _ gm_98) (hts _ gm_97) (hts _ gm_54) hK hP hD hS hG.2.1.2.2.2.1.2 1 0 rfl rfl (by omega) (by omega) (by omega) (by omega) (Nat.le_of_ble_eq_true rfl) (Nat.le_of_ble_eq_true rfl) dRw_append_21 (fun H locs hP hD hS => ?_)
  have hP : va_P D vwCl [(h, .inr (2, [.ref b1, .int (nI len)])), (b1, .inl (k 0, gc cap (len + many), .inl (by_ (va_cpy lblP f1 start len many))))] H := hP
  have hD : va_D A [(h, .inr (2, [.ref b1, .int (nI len)])), (b1, .inl (k 0, gc cap (len + many), .inl (by_ (va_cpy lblP f1 start len many))))] := hD
  refine lv_aload_n hx hb dRw_append_24 rfl (lv_at hl 0 rfl) ?_
  refine lv_dup hx hb dRw_append_25 rfl ?_
  refine va_get (D := D) (ci := 2) (v := .int (nI len)) (C := R_Rw) (T := T_Rw) (N := 2) hx hb hts in_Rw hown hK hP 0 rfl rfl 1 (by decide) (hts _ gm_81) (fun _ h9 => h9) rfl dRw_append_26 ?_
  refine lv_iload_n hx hb dRw_append_29 rfl (lv_at hl 3 rfl) ?_
  refine ri_add hx hb dRw_append_30 ?_
  refine va_put (D := D) (ci := 2) (v := .int (nI (len + many))) (ty := .int) (C := R_Rw) (T := T_Rw) (N := 2) hx hb hts in_Rw t_Rw tk_Rw nm_Rw hown hK hP hD hS 0 rfl rfl 1 (by decide) (hts _ gm_81) (fun _ h9 => h9) rfl (by decide +kernel) rfl rfl (Nat.le_of_ble_eq_true rfl) dRw_append_31 (fun H locs hP hD hS => ?_)
  have hP : va_P D vwCl [(h, .inr (2, [.ref b1, .int (nI (len + many))])), (b1, .inl (k 0, gc cap (len + many), .inl (by_ (va_cpy lblP f1 start len many))))] H := hP
  have hD : va_D A [(h, .inr (2, [.ref b1, .int (nI (len + many))])), (b1, .inl (k 0, gc cap (len + many), .inl (by_ (va_cpy lblP f1 start len many))))] := hD
  refine W.widen (k := gc cap (len + many) - cap) (n := 2 * (gc cap (len + many) - cap)) (by omega) (by omega) ?_
  exact W.vret hx hb hr (fun t ht hW => ⟨⟨(b1, va_cpy lblP f1 start len many), rfl, ⟨fun j hj => (pk_cpy_out (Or.inl hj)).trans (hw j (by omega)), fun j hj => (pk_cpy_in (by omega) (by omega)).trans (by rw [Nat.add_sub_cancel_left])⟩, by rw [ht]; exact hP, hD⟩, hS.F ht⟩) hS.2.2 dRw_append_34
set_option maxHeartbeats 600000 in
set_option maxRecDepth 100000 in
/-- Row.becomeCopyOf -/
theorem c_Row_becomeCopyOf (l : Launch) (D : va_G) (k : Nat → ClassId) (tb : Nat → Nat) (sz : Nat) (h b h2 b2 cap len cap2 len2 : Nat) (f g : Nat → Int8) (hc : 0 < cap) (hc2 : cap ≤ 100000000) (hl2 : len2 ≤ cap2) (hm : len2 < 20000000) (hn0 : cap2 < 1000000000) : Met l yRw_becomeCopyOf wRw_becomeCopyOf ({ frames := 4, cells := gc cap len2 - cap, slots := 2 * (gc cap len2 - cap), locals := 126 }) (cP D k tb [(h, .inr (2, [.ref b, .int (nI len)])), (b, .inl (k 0, cap, .inl (by_ f))), (h2, .inr (2, [.ref b2, .int (nI len2)])), (b2, .inl (k 0, cap2, .inl (by_ g)))] sz [.ref h, .ref h2]) (va_Qv (fun (u : Nat × (Nat → Int8)) => ∀ j, j < len2 → u.2 j = g j) (fun (u : Nat × (Nat → Int8)) (t : State) => va_P D vwCl [(h, .inr (2, [.ref u.1, .int (nI len2)])), (u.1, .inl (k 0, gc cap len2, .inl (by_ u.2))), (h2, .inr (2, [.ref b2, .int (nI len2)])), (b2, .inl (k 0, cap2, .inl (by_ g)))] t.heap ∧ va_D (va_A [(h, .inr (2, [.ref b, .int (nI len)])), (b, .inl (k 0, cap, .inl (by_ f))), (h2, .inr (2, [.ref b2, .int (nI len2)])), (b2, .inl (k 0, cap2, .inl (by_ g)))] sz) [(h, .inr (2, [.ref u.1, .int (nI len2)])), (u.1, .inl (k 0, gc cap len2, .inl (by_ u.2))), (h2, .inr (2, [.ref b2, .int (nI len2)])), (b2, .inl (k 0, cap2, .inl (by_ g)))]) (va_A [(h, .inr (2, [.ref b, .int (nI len)])), (b, .inl (k 0, cap, .inl (by_ f))), (h2, .inr (2, [.ref b2, .int (nI len2)])), (b2, .inl (k 0, cap2, .inl (by_ g)))] sz)) (gc cap len2 - cap) (2 * (gc cap len2 - cap)) (va_A [(h, .inr (2, [.ref b, .int (nI len)])), (b, .inl (k 0, cap, .inl (by_ f))), (h2, .inr (2, [.ref b2, .int (nI len2)])), (b2, .inl (k 0, cap2, .inl (by_ g)))] sz) := by
  refine Met.ofW (cc := cRw_becomeCopyOf) (maxL := 2) (ret := none) (by decide) rfl ?_
  intro p e s m args below meth c s₁ B hml hv
  obtain ⟨rfl, hsz, hP, hK, hD0, hG⟩ := hv
  have hx := B.exec
  have hb := B.bytes
  have hr := B.returns
  have hts : ∀ w ∈ GT, w.before _ s = true := fun w h => atoms_spec (ws := wRw_becomeCopyOf) B.pre w (List.mem_cons_of_mem _ h)
  have hown : s.vm.findClass R_Rw = some m.cls := findClass_of_methodNamed B.named
  have hlocks := B.notSynchronized
  subst hsz
  have hD := hD0.self (sz := s.heap.size)
  generalize hAe : va_A [(h, .inr (2, [.ref b, .int (nI len)])), (b, .inl (k 0, cap, .inl (by_ f))), (h2, .inr (2, [.ref b2, .int (nI len2)])), (b2, .inl (k 0, cap2, .inl (by_ g)))] s.heap.size = A at hD hG ⊢
  have hA : ∀ q : Nat, s.heap.size ≤ q → A q := fun q h => by rw [← hAe]; exact Or.inr h
  have hl := lv_entry ([.ref h, .ref h2]) (n := 2) (Nat.le_of_ble_eq_true rfl)
  rw [lg_entry_eq]
  generalize (lg_sl ([.ref h, .ref h2]) ++ List.replicate (2 - (lg_sl ([.ref h, .ref h2])).length) Slot.unset).toArray = ls at hl ⊢
  have hl : lv_has ls 2 [(0, .ref h), (1, .ref h2)] := hl
  refine cw_start (A := A) hP (fun H locs hP hS => ?_)
  refine lv_aload_n hx hb dRw_becomeCopyOf_0 rfl (lv_at hl 0 rfl) ?_
  refine lv_iconst (v := nI 0) hx hb dRw_becomeCopyOf_1 (by decide) ?_
  refine va_put (D := D) (ci := 2) (v := .int (nI 0)) (ty := .int) (C := R_Rw) (T := T_Rw) (N := 2) hx hb hts in_Rw t_Rw tk_Rw nm_Rw hown hK hP hD hS 0 rfl rfl 1 (by decide) (hts _ gm_81) (fun _ h9 => h9) rfl (by decide +kernel) rfl rfl (Nat.le_of_ble_eq_true rfl) dRw_becomeCopyOf_2 (fun H locs hP hD hS => ?_)
  have hP : va_P D vwCl [(h, .inr (2, [.ref b, .int (nI 0)])), (b, .inl (k 0, cap, .inl (by_ f))), (h2, .inr (2, [.ref b2, .int (nI len2)])), (b2, .inl (k 0, cap2, .inl (by_ g)))] H := hP
  have hD : va_D A [(h, .inr (2, [.ref b, .int (nI 0)])), (b, .inl (k 0, cap, .inl (by_ f))), (h2, .inr (2, [.ref b2, .int (nI len2)])), (b2, .inl (k 0, cap2, .inl (by_ g)))] := hD
  refine lv_aload_n hx hb dRw_becomeCopyOf_5 rfl (lv_at hl 0 rfl) ?_
  refine lv_aload_n hx hb dRw_becomeCopyOf_6 rfl (lv_at hl 1 rfl) ?_
  refine va_get (D := D) (ci := 2) (v := .ref b2) (C := R_Rw) (T := T_Rw) (N := 2) hx hb hts in_Rw hown hK hP 2 rfl rfl 0 (by decide) (hts _ gm_80) (fun _ h9 => h9) rfl dRw_becomeCopyOf_7 ?_
  refine lv_iconst (v := nI 0) hx hb dRw_becomeCopyOf_10 (by decide) ?_
  refine lv_aload_n hx hb dRw_becomeCopyOf_11 rfl (lv_at hl 1 rfl) ?_
  refine va_get (D := D) (ci := 2) (v := .int (nI len2)) (C := R_Rw) (T := T_Rw) (N := 2) hx hb hts in_Rw hown hK hP 2 rfl rfl 1 (by decide) (hts _ gm_81) (fun _ h9 => h9) rfl dRw_becomeCopyOf_12 ?_
  have ez : gc cap (0 + len2) = gc cap len2 := by rw [Nat.zero_add]
  refine rc_v (wr := [(h2, .inr (2, [.ref b2, .int (nI len2)]))]) (va_runV (As := [.ref b2, .int (nI 0), .int (nI len2)]) (rest := []) ⟨hx, hb, hml, hown, hts⟩ (c_Row_append l D k tb H.size h b b2 cap 0 cap2 0 len2 f g (by omega) (by omega) (by omega) (by omega) (by omega) (by omega) (by omega)) (cwV 3 hts (gV gm_185 gm_186 gm_1 gm_51 gm_187) rfl rfl rfl (by decide +kernel) ⟨Nat.le_of_ble_eq_true rfl, Nat.le_of_ble_eq_true rfl⟩) (cP_V hP hD hK hG hS hA [0, 1, 3] (by decide) rfl (ci := 2) (q0 := 0) rfl rfl) rfl rfl hl.1 rfl (lv_room (Nat.le_of_ble_eq_true rfl)) dRw_becomeCopyOf_15 ⟨by show 0 + (gc cap (0 + len2) - cap) ≤ gc cap len2 - cap; omega, by show 0 + (2 * (gc cap (0 + len2) - cap)) ≤ 2 * (gc cap len2 - cap); omega⟩) hS hA hP hD [0, 1, 3] [2] rfl rfl (by decide) (by decide) (fun u9 H locs hw hP hD hS => ?_)
  obtain ⟨b1, f1⟩ := u9
  have hP : va_P D vwCl [(h2, .inr (2, [.ref b2, .int (nI len2)])), (h, .inr (2, [.ref b1, .int (nI (0 + len2))])), (b1, .inl (k 0, gc cap (0 + len2), .inl (by_ f1))), (b2, .inl (k 0, cap2, .inl (by_ g)))] H := hP
  have hD : va_D A [(h2, .inr (2, [.ref b2, .int (nI len2)])), (h, .inr (2, [.ref b1, .int (nI (0 + len2))])), (b1, .inl (k 0, gc cap (0 + len2), .inl (by_ f1))), (b2, .inl (k 0, cap2, .inl (by_ g)))] := hD
  rw [Nat.zero_add] at hP hD
  have hP := hP.sub (ws' := [(h, .inr (2, [.ref b1, .int (nI len2)])), (b1, .inl (k 0, gc cap len2, .inl (by_ f1))), (h2, .inr (2, [.ref b2, .int (nI len2)])), (b2, .inl (k 0, cap2, .inl (by_ g)))]) [1, 2, 0, 3] rfl
  have hD := hD.sub (ws' := [(h, .inr (2, [.ref b1, .int (nI len2)])), (b1, .inl (k 0, gc cap len2, .inl (by_ f1))), (h2, .inr (2, [.ref b2, .int (nI len2)])), (b2, .inl (k 0, cap2, .inl (by_ g)))]) [1, 2, 0, 3] (by decide) rfl
  refine W.widen (k := gc cap len2 - cap) (n := 2 * (gc cap len2 - cap)) (by omega) (by omega) ?_
  exact W.vret hx hb hr (fun t ht hW => ⟨⟨(b1, f1), rfl, (fun j hj => by have q := hw.2 j hj; simpa using q), by rw [ht]; exact hP, hD⟩, hS.F ht⟩) hS.2.2 dRw_becomeCopyOf_18
