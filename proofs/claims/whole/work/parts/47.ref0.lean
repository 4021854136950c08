/-! THE REFERENCE: small methods -/
def rSz (k : Nat) : Nat := if k = 0 then 32 else if k = 1 then 48 else 64
def rBl (k : Nat) : Nat := if k = 0 then 64 else 128
def rBo (k n : Nat) : Nat := (n + 1 + rBl k / 8 + rBl k - 1) / rBl k
theorem rBl_pos (k : Nat) : 64 ≤ rBl k := by unfold rBl; split <;> omega
theorem rBl_le (k : Nat) : rBl k ≤ 128 := by unfold rBl; split <;> omega
theorem rSz_le (k : Nat) : rSz k ≤ 64 := by unfold rSz; (repeat' split) <;> omega
def rcp (src dst : Nat → Int8) (so d : Nat) : Nat → Nat → Int8
  | 0 => dst
  | n + 1 => va_up (rcp src dst so d n) (d + n) (src (so + n))
theorem rcp_eq (src dst : Nat → Int8) (so d : Nat) : ∀ n, rcp src dst so d n = va_cpy src dst so d n
  | 0 => by funext j; show dst j = if d ≤ j ∧ j < d + 0 then _ else _; rw [if_neg (by omega)]
  | n + 1 => by
    funext j
    show va_up (rcp src dst so d n) (d + n) (src (so + n)) j = _
    rw [rcp_eq src dst so d n]
    unfold va_up va_cpy
    by_cases h : j = d + n
    · subst h
      rw [if_pos rfl, if_pos (by omega), Nat.add_sub_cancel_left]
    · rw [if_neg h]
      by_cases h2 : d ≤ j ∧ j < d + n
      · rw [if_pos h2, if_pos (by omega)]
      · rw [if_neg h2, if_neg (by omega)]
def rW (p0 p1 p2 p3 p4 : Int32) (i : Nat) : Int32 := if i < 4 then p0 else if i < 8 then p1 else if i < 12 then p2 else if i < 16 then p3 else p4
def rFd (p0 p1 p2 p3 p4 : Int32) (ft : Nat → Int8) (nt : Nat) : Nat → Nat → Int8
  | 0 => ft
  | n + 1 => va_up (rFd p0 p1 p2 p3 p4 ft nt n) (nt + n) ((rW p0 p1 p2 p3 p4 n >>> (nI (8 * (3 - n % 4)) &&& 31)).toInt8)
def wMd_init : List Cond := .code yMd_init cMd_init 3 none :: GT
def wMd_block : List Cond := .code yMd_block cMd_block 1 (some .int) :: GT
def wMd_blocksOf : List Cond := .code yMd_blocksOf cMd_blocksOf 3 (some .int) :: GT
def wMd_count : List Cond := .code yMd_count cMd_count 2 (some .int) :: GT
def wMd_end : List Cond := .code yMd_end cMd_end 2 (some .int) :: GT
def wMd_expand : List Cond := .code yMd_expand cMd_expand 3 (some .int) :: GT
def wMd_expandLabel : List Cond := .code yMd_expandLabel cMd_expandLabel 6 (some .int) :: GT
def wMd_expanded : List Cond := .code yMd_expanded cMd_expanded 7 (some .int) :: GT
def wMd_fail : List Cond := .code yMd_fail cMd_fail 2 (some .int) :: GT
def wMd_feed : List Cond := .code yMd_feed cMd_feed 8 (some .int) :: GT
def wMd_fit : List Cond := .code yMd_fit cMd_fit 3 (some .long) :: GT
def wMd_fits : List Cond := .code yMd_fits cMd_fits 10 (some .boolean) :: GT
def wMd_hash : List Cond := .code yMd_hash cMd_hash 10 none :: GT
def wMd_hmac : List Cond := .code yMd_hmac cMd_hmac 3 (some .int) :: GT
def wMd_keep : List Cond := .code yMd_keep cMd_keep 2 (some .int) :: GT
def wMd_key : List Cond := .code yMd_key cMd_key 2 (some .int) :: GT
def wMd_keyed : List Cond := .code yMd_keyed cMd_keyed 5 none :: GT
def wMd_mixed : List Cond := .code yMd_mixed cMd_mixed 6 (some .long) :: GT
def wMd_more : List Cond := .code yMd_more cMd_more 4 (some .long) :: GT
def wMd_over : List Cond := .code yMd_over cMd_over 27 none :: GT
def wMd_padded : List Cond := .code yMd_padded cMd_padded 5 (some .int) :: GT
def wMd_peek : List Cond := .code yMd_peek cMd_peek 3 (some .int) :: GT
def wMd_prepare : List Cond := .code yMd_prepare cMd_prepare 4 none :: GT
def wMd_prime : List Cond := .code yMd_prime cMd_prime 4 (some .int) :: GT
def wMd_restart : List Cond := .code yMd_restart cMd_restart 2 none :: GT
def wMd_result : List Cond := .code yMd_result cMd_result 2 (some .int) :: GT
def wMd_root : List Cond := .code yMd_root cMd_root 12 (some .long) :: GT
def wMd_shifted : List Cond := .code yMd_shifted cMd_shifted 6 (some .long) :: GT
def wMd_size : List Cond := .code yMd_size cMd_size 1 (some .int) :: GT
def wMd_strange : List Cond := .code yMd_strange cMd_strange 1 (some .boolean) :: GT
def wMd_thrown : List Cond := .code yMd_thrown cMd_thrown 1 (some .int) :: GT
def wMd_times : List Cond := .code yMd_times cMd_times 13 none :: GT
def wMd_turned : List Cond := .code yMd_turned cMd_turned 4 (some .long) :: GT
set_option maxHeartbeats 600000 in
set_option maxRecDepth 100000 in
theorem c_r_size (l : Launch) (D : va_G) (k : Nat → ClassId) (tb : Nat → Nat) (sz : Nat) (kd : Nat) (hkd : kd < 3) : Met l yMd_size wMd_size ({ frames := 0, cells := 0, slots := 0, locals := 0 }) (cP D k tb [] sz [.int (nI kd)]) (va_Qi (fun (r : Int32) (u : Unit) => r = nI (rSz kd)) (fun (u : Unit) (t : State) => va_P D vwCl [] t.heap ∧ va_D (va_A [] sz) []) (va_A [] sz)) (0) (0) (va_A [] sz) := by
  refine Met.ofW (cc := cMd_size) (maxL := 1) (ret := (some .int)) (by decide) rfl ?_
  intro p e s m args below meth c s₁ B hml hv
  obtain ⟨rfl, hsz, hP, hK, hD0, hG⟩ := hv
  have hx := B.exec
  have hb := B.bytes
  have hr := B.returns
  have hts : ∀ w ∈ GT, w.before _ s = true := fun w h => atoms_spec (ws := wMd_size) B.pre w (List.mem_cons_of_mem _ h)
  have hown : s.vm.findClass R_Md = some m.cls := findClass_of_methodNamed B.named
  have hlocks := B.notSynchronized
  subst hsz
  have hD := hD0.self (sz := s.heap.size)
  generalize hAe : va_A [] s.heap.size = A at hD hG ⊢
  have hA : ∀ q : Nat, s.heap.size ≤ q → A q := fun q h => by rw [← hAe]; exact Or.inr h
  have hl := lv_entry ([.int (nI kd)]) (n := 1) (Nat.le_of_ble_eq_true rfl)
  rw [lg_entry_eq]
  generalize (lg_sl ([.int (nI kd)]) ++ List.replicate (1 - (lg_sl ([.int (nI kd)])).length) Slot.unset).toArray = ls at hl ⊢
  have hl : lv_has ls 1 [(0, .int (nI kd))] := hl
  refine cw_start (A := A) hP (fun H locs hP hS => ?_)
  refine lv_iload_n hx hb dMd_size_0 rfl (lv_at hl 0 rfl) ?_
  refine rz_ne (tgt := 9) hx hb dMd_size_1 (by decide) (by omega) (fun c_1 => ?_) (fun c_1 => ?_)
  · skip
    refine lv_iload_n hx hb dMd_size_9 rfl (lv_at hl 0 rfl) ?_
    refine lv_iconst (v := nI 1) hx hb dMd_size_10 (by decide) ?_
    refine ri_ne (tgt := 19) hx hb dMd_size_11 (by decide) (by omega) (by omega) (fun c_11 => ?_) (fun c_11 => ?_)
    · skip
      refine lv_bipush (v := nI 64) hx hb dMd_size_19 (by decide) ?_
      refine W.widen (k := 0) (n := 0) (Nat.le_refl _) (Nat.le_refl _) ?_
      exact W.iret (v := nI 64) hx hb hr (fun t ht hW => ⟨⟨nI 64, (), rfl, (by show nI 64 = nI (rSz kd); rw [show rSz kd = 64 from by unfold rSz; (repeat' split) <;> omega]), by rw [ht]; exact hP, hD⟩, hS.F ht⟩) hS.2.2 dMd_size_21
    · skip
      refine lv_bipush (v := nI 48) hx hb dMd_size_14 (by decide) ?_
      refine lv_goto (tgt := 21) hx hb dMd_size_16 (by decide) ?_
      refine W.widen (k := 0) (n := 0) (Nat.le_refl _) (Nat.le_refl _) ?_
      exact W.iret (v := nI 48) hx hb hr (fun t ht hW => ⟨⟨nI 48, (), rfl, (by show nI 48 = nI (rSz kd); rw [show rSz kd = 48 from by unfold rSz; (repeat' split) <;> omega]), by rw [ht]; exact hP, hD⟩, hS.F ht⟩) hS.2.2 dMd_size_21
  · skip
    refine lv_bipush (v := nI 32) hx hb dMd_size_4 (by decide) ?_
    refine lv_goto (tgt := 21) hx hb dMd_size_6 (by decide) ?_
    refine W.widen (k := 0) (n := 0) (Nat.le_refl _) (Nat.le_refl _) ?_
    exact W.iret (v := nI 32) hx hb hr (fun t ht hW => ⟨⟨nI 32, (), rfl, (by show nI 32 = nI (rSz kd); rw [show rSz kd = 32 from by unfold rSz; (repeat' split) <;> omega]), by rw [ht]; exact hP, hD⟩, hS.F ht⟩) hS.2.2 dMd_size_21
set_option maxHeartbeats 600000 in
set_option maxRecDepth 100000 in
theorem c_r_block (l : Launch) (D : va_G) (k : Nat → ClassId) (tb : Nat → Nat) (sz : Nat) (kd : Nat) (hkd : kd < 3) : Met l yMd_block wMd_block ({ frames := 0, cells := 0, slots := 0, locals := 0 }) (cP D k tb [] sz [.int (nI kd)]) (va_Qi (fun (r : Int32) (u : Unit) => r = nI (rBl kd)) (fun (u : Unit) (t : State) => va_P D vwCl [] t.heap ∧ va_D (va_A [] sz) []) (va_A [] sz)) (0) (0) (va_A [] sz) := by
  refine Met.ofW (cc := cMd_block) (maxL := 1) (ret := (some .int)) (by decide) rfl ?_
  intro p e s m args below meth c s₁ B hml hv
  obtain ⟨rfl, hsz, hP, hK, hD0, hG⟩ := hv
  have hx := B.exec
  have hb := B.bytes
  have hr := B.returns
  have hts : ∀ w ∈ GT, w.before _ s = true := fun w h => atoms_spec (ws := wMd_block) B.pre w (List.mem_cons_of_mem _ h)
  have hown : s.vm.findClass R_Md = some m.cls := findClass_of_methodNamed B.named
  have hlocks := B.notSynchronized
  subst hsz
  have hD := hD0.self (sz := s.heap.size)
  generalize hAe : va_A [] s.heap.size = A at hD hG ⊢
  have hA : ∀ q : Nat, s.heap.size ≤ q → A q := fun q h => by rw [← hAe]; exact Or.inr h
  have hl := lv_entry ([.int (nI kd)]) (n := 1) (Nat.le_of_ble_eq_true rfl)
  rw [lg_entry_eq]
  generalize (lg_sl ([.int (nI kd)]) ++ List.replicate (1 - (lg_sl ([.int (nI kd)])).length) Slot.unset).toArray = ls at hl ⊢
  have hl : lv_has ls 1 [(0, .int (nI kd))] := hl
  refine cw_start (A := A) hP (fun H locs hP hS => ?_)
  refine lv_iload_n hx hb dMd_block_0 rfl (lv_at hl 0 rfl) ?_
  refine rz_ne (tgt := 9) hx hb dMd_block_1 (by decide) (by omega) (fun c_1 => ?_) (fun c_1 => ?_)
  · skip
    refine lv_sipush (v := nI 128) hx hb dMd_block_9 (by decide) ?_
    refine W.widen (k := 0) (n := 0) (Nat.le_refl _) (Nat.le_refl _) ?_
    exact W.iret (v := nI 128) hx hb hr (fun t ht hW => ⟨⟨nI 128, (), rfl, (by show nI 128 = nI (rBl kd); rw [show rBl kd = 128 from by unfold rBl; (repeat' split) <;> omega]), by rw [ht]; exact hP, hD⟩, hS.F ht⟩) hS.2.2 dMd_block_12
  · skip
    refine lv_bipush (v := nI 64) hx hb dMd_block_4 (by decide) ?_
    refine lv_goto (tgt := 12) hx hb dMd_block_6 (by decide) ?_
    refine W.widen (k := 0) (n := 0) (Nat.le_refl _) (Nat.le_refl _) ?_
    exact W.iret (v := nI 64) hx hb hr (fun t ht hW => ⟨⟨nI 64, (), rfl, (by show nI 64 = nI (rBl kd); rw [show rBl kd = 64 from by unfold rBl; (repeat' split) <;> omega]), by rw [ht]; exact hP, hD⟩, hS.F ht⟩) hS.2.2 dMd_block_12
set_option maxHeartbeats 600000 in
set_option maxRecDepth 100000 in
theorem c_r_blocksOf (l : Launch) (D : va_G) (k : Nat → ClassId) (tb : Nat → Nat) (sz : Nat) (kd n : Nat) (hkd : kd < 3) (hn : n < 1000000) : Met l yMd_blocksOf wMd_blocksOf ({ frames := 1, cells := 0, slots := 0, locals := 20 }) (cP D k tb [] sz [.int (nI kd), .int (nI n)]) (va_Qi (fun (r : Int32) (u : Unit) => r = nI (rBo kd n)) (fun (u : Unit) (t : State) => va_P D vwCl [] t.heap ∧ va_D (va_A [] sz) []) (va_A [] sz)) (0) (0) (va_A [] sz) := by
  refine Met.ofW (cc := cMd_blocksOf) (maxL := 3) (ret := (some .int)) (by decide) rfl ?_
  intro p e s m args below meth c s₁ B hml hv
  obtain ⟨rfl, hsz, hP, hK, hD0, hG⟩ := hv
  have hx := B.exec
  have hb := B.bytes
  have hr := B.returns
  have hts : ∀ w ∈ GT, w.before _ s = true := fun w h => atoms_spec (ws := wMd_blocksOf) B.pre w (List.mem_cons_of_mem _ h)
  have hown : s.vm.findClass R_Md = some m.cls := findClass_of_methodNamed B.named
  have hlocks := B.notSynchronized
  subst hsz
  have hD := hD0.self (sz := s.heap.size)
  generalize hAe : va_A [] s.heap.size = A at hD hG ⊢
  have hA : ∀ q : Nat, s.heap.size ≤ q → A q := fun q h => by rw [← hAe]; exact Or.inr h
  have hl := lv_entry ([.int (nI kd), .int (nI n)]) (n := 3) (Nat.le_of_ble_eq_true rfl)
  rw [lg_entry_eq]
  generalize (lg_sl ([.int (nI kd), .int (nI n)]) ++ List.replicate (3 - (lg_sl ([.int (nI kd), .int (nI n)])).length) Slot.unset).toArray = ls at hl ⊢
  have hl : lv_has ls 3 [(0, .int (nI kd)), (1, .int (nI n))] := hl
  refine cw_start (A := A) hP (fun H locs hP hS => ?_)
  refine lv_iload_n hx hb dMd_blocksOf_0 rfl (lv_at hl 0 rfl) ?_
  refine rc_i (wr := []) (va_runS (As := [.int (nI kd)]) (rest := []) ⟨hx, hb, hml, hown, hts⟩ (c_r_block l D k tb H.size kd hkd) (va_cwS 1 hts (gS gm_594 gm_595 gm_57 gm_596) rfl rfl rfl (by decide +kernel) ⟨Nat.le_of_ble_eq_true rfl, Nat.le_of_ble_eq_true rfl⟩) (cP_S hP hD hK hG hS hA [] (by decide) rfl) rfl rfl hl.1 rfl (lv_room (Nat.le_of_ble_eq_true rfl)) dMd_blocksOf_1 ⟨Nat.le_of_ble_eq_true rfl, Nat.le_of_ble_eq_true rfl⟩) hS hA hP hD [] [] rfl rfl (by decide) (by decide) (fun r1 u H locs hw hP hD hS => ?_)
  have hP : va_P D vwCl [] H := hP
  have hD : va_D A [] := hD
  subst hw
  have hbl := rBl_pos kd
  have hbu := rBl_le kd
  refine lv_istore_n (lv' := [(2, .int (nI (rBl kd))), (0, .int (nI kd)), (1, .int (nI n))]) hx hb dMd_blocksOf_4 rfl hl (by decide) rfl (fun ls hl => ?_)
  refine lv_iload_n hx hb dMd_blocksOf_5 rfl (lv_at hl 2 rfl) ?_
  refine lv_iconst (v := nI 1) hx hb dMd_blocksOf_6 (by decide) ?_
  refine ri_add hx hb dMd_blocksOf_7 ?_
  refine lv_iload_n hx hb dMd_blocksOf_8 rfl (lv_at hl 0 rfl) ?_
  refine lv_bipush (v := nI 8) hx hb dMd_blocksOf_9 (by decide) ?_
  refine ri_div hx hb (by omega) (by omega) (by omega) dMd_blocksOf_11 ?_
  refine ri_add hx hb dMd_blocksOf_12 ?_
  refine lv_iload_n hx hb dMd_blocksOf_13 rfl (lv_at hl 0 rfl) ?_
  refine ri_add hx hb dMd_blocksOf_14 ?_
  refine lv_iconst (v := nI 1) hx hb dMd_blocksOf_15 (by decide) ?_
  refine ri_sub hx hb (by omega) dMd_blocksOf_16 ?_
  refine lv_iload_n hx hb dMd_blocksOf_17 rfl (lv_at hl 0 rfl) ?_
  refine ri_div hx hb (by omega) (by omega) (by omega) dMd_blocksOf_18 ?_
  refine W.widen (k := 0) (n := 0) (Nat.le_refl _) (Nat.le_refl _) ?_
  exact W.iret (v := nI (((((n + 1) + ((rBl kd) / 8)) + (rBl kd)) - 1) / (rBl kd))) hx hb hr (fun t ht hW => ⟨⟨nI (((((n + 1) + ((rBl kd) / 8)) + (rBl kd)) - 1) / (rBl kd)), (), rfl, rfl, by rw [ht]; exact hP, hD⟩, hS.F ht⟩) hS.2.2 dMd_blocksOf_19
set_option maxHeartbeats 600000 in
set_option maxRecDepth 100000 in
theorem c_r_strange (l : Launch) (D : va_G) (k : Nat → ClassId) (tb : Nat → Nat) (sz : Nat) (kd : Nat) (hkd : kd < 3) : Met l yMd_strange wMd_strange ({ frames := 0, cells := 0, slots := 0, locals := 0 }) (cP D k tb [] sz [.int (nI kd)]) (va_Qi (fun (r : Int32) (u : Unit) => r = nI 0) (fun (u : Unit) (t : State) => va_P D vwCl [] t.heap ∧ va_D (va_A [] sz) []) (va_A [] sz)) (0) (0) (va_A [] sz) := by
  refine Met.ofW (cc := cMd_strange) (maxL := 1) (ret := (some .boolean)) (by decide) rfl ?_
  intro p e s m args below meth c s₁ B hml hv
  obtain ⟨rfl, hsz, hP, hK, hD0, hG⟩ := hv
  have hx := B.exec
  have hb := B.bytes
  have hr := B.returns
  have hts : ∀ w ∈ GT, w.before _ s = true := fun w h => atoms_spec (ws := wMd_strange) B.pre w (List.mem_cons_of_mem _ h)
  have hown : s.vm.findClass R_Md = some m.cls := findClass_of_methodNamed B.named
  have hlocks := B.notSynchronized
  subst hsz
  have hD := hD0.self (sz := s.heap.size)
  generalize hAe : va_A [] s.heap.size = A at hD hG ⊢
  have hA : ∀ q : Nat, s.heap.size ≤ q → A q := fun q h => by rw [← hAe]; exact Or.inr h
  have hl := lv_entry ([.int (nI kd)]) (n := 1) (Nat.le_of_ble_eq_true rfl)
  rw [lg_entry_eq]
  generalize (lg_sl ([.int (nI kd)]) ++ List.replicate (1 - (lg_sl ([.int (nI kd)])).length) Slot.unset).toArray = ls at hl ⊢
  have hl : lv_has ls 1 [(0, .int (nI kd))] := hl
  refine cw_start (A := A) hP (fun H locs hP hS => ?_)
  refine lv_iload_n hx hb dMd_strange_0 rfl (lv_at hl 0 rfl) ?_
  refine rz_lt (tgt := 9) hx hb dMd_strange_1 (by decide) (by omega) ?_
  refine lv_iload_n hx hb dMd_strange_4 rfl (lv_at hl 0 rfl) ?_
  refine lv_iconst (v := nI 2) hx hb dMd_strange_5 (by decide) ?_
  refine ri_le (tgt := 13) hx hb dMd_strange_6 (by decide) (by omega) (by omega) (fun c_6 => ?_) (fun c_6 => absurd c_6 (by omega))
  refine lv_iconst (v := nI 0) hx hb dMd_strange_13 (by decide) ?_
  refine W.widen (k := 0) (n := 0) (Nat.le_refl _) (Nat.le_refl _) ?_
  exact W.zret (v := nI 0) hx hb hr (by decide +kernel) (fun t ht hW => ⟨⟨nI 0, (), rfl, rfl, by rw [ht]; exact hP, hD⟩, hS.F ht⟩) hS.2.2 dMd_strange_14
set_option maxHeartbeats 600000 in
set_option maxRecDepth 100000 in
theorem t_r_strange (l : Launch) (D : va_G) (k : Nat → ClassId) (tb : Nat → Nat) (sz : Nat) (x : Int32) (hq : ¬ x < 0 → x < nI 3 → False) : Met l yMd_strange wMd_strange ({ frames := 0, cells := 0, slots := 0, locals := 0 }) (cP D k tb [] sz [.int x]) (va_Qi (fun (r : Int32) (u : Unit) => r = nI 1) (fun (u : Unit) (t : State) => va_P D vwCl [] t.heap ∧ va_D (va_A [] sz) []) (va_A [] sz)) (0) (0) (va_A [] sz) := by
  refine Met.ofW (cc := cMd_strange) (maxL := 1) (ret := (some .boolean)) (by decide) rfl ?_
  intro p e s m args below meth c s₁ B hml hv
  obtain ⟨rfl, hsz, hP, hK, hD0, hG⟩ := hv
  have hx := B.exec
  have hb := B.bytes
  have hr := B.returns
  have hts : ∀ w ∈ GT, w.before _ s = true := fun w h => atoms_spec (ws := wMd_strange) B.pre w (List.mem_cons_of_mem _ h)
  have hown : s.vm.findClass R_Md = some m.cls := findClass_of_methodNamed B.named
  have hlocks := B.notSynchronized
  subst hsz
  have hD := hD0.self (sz := s.heap.size)
  generalize hAe : va_A [] s.heap.size = A at hD hG ⊢
  have hA : ∀ q : Nat, s.heap.size ≤ q → A q := fun q h => by rw [← hAe]; exact Or.inr h
  have hl := lv_entry ([.int x]) (n := 1) (Nat.le_of_ble_eq_true rfl)
  rw [lg_entry_eq]
  generalize (lg_sl ([.int x]) ++ List.replicate (1 - (lg_sl ([.int x])).length) Slot.unset).toArray = ls at hl ⊢
  have hl : lv_has ls 1 [(0, .int x)] := hl
  refine cw_start (A := A) hP (fun H locs hP hS => ?_)
  refine lv_iload_n hx hb dMd_strange_0 rfl (lv_at hl 0 rfl) ?_
  refine lv_if_lt (tgt := 9) hx hb dMd_strange_1 (by decide) (fun c_1 => ?_) (fun c_1 => ?_)
  · skip
    refine lv_iconst (v := nI 1) hx hb dMd_strange_9 (by decide) ?_
    refine lv_goto (tgt := 14) hx hb dMd_strange_10 (by decide) ?_
    refine W.widen (k := 0) (n := 0) (Nat.le_refl _) (Nat.le_refl _) ?_
    exact W.zret (v := nI 1) hx hb hr (by decide +kernel) (fun t ht hW => ⟨⟨nI 1, (), rfl, rfl, by rw [ht]; exact hP, hD⟩, hS.F ht⟩) hS.2.2 dMd_strange_14
  · skip
    refine lv_iload_n hx hb dMd_strange_4 rfl (lv_at hl 0 rfl) ?_
    refine lv_iconst (v := nI 2) hx hb dMd_strange_5 (by decide) ?_
    refine lv_icmp_le (tgt := 13) hx hb dMd_strange_6 (by decide) (fun c_6 => ?_) (fun c_6 => ?_)
    · skip
      exact (hq c_1 (show x < nI 3 from Int32.lt_of_le_of_lt c_6 (by decide +kernel))).elim
    · skip
      refine lv_iconst (v := nI 1) hx hb dMd_strange_9 (by decide) ?_
      refine lv_goto (tgt := 14) hx hb dMd_strange_10 (by decide) ?_
      refine W.widen (k := 0) (n := 0) (Nat.le_refl _) (Nat.le_refl _) ?_
      exact W.zret (v := nI 1) hx hb hr (by decide +kernel) (fun t ht hW => ⟨⟨nI 1, (), rfl, rfl, by rw [ht]; exact hP, hD⟩, hS.F ht⟩) hS.2.2 dMd_strange_14
set_option maxHeartbeats 600000 in
set_option maxRecDepth 100000 in
theorem c_r_thrown (l : Launch) (D : va_G) (k : Nat → ClassId) (tb : Nat → Nat) (sz : Nat) (mo xt xk xr nt nk nr xu xv xb xw xo xl xp yr ys yw yt yl yc wd : Nat) (th : Int32) : Met l yMd_thrown wMd_thrown ({ frames := 0, cells := 0, slots := 0, locals := 0 }) (cP D k tb [(mo, .inr (5, [.int th, .ref xt, .ref xk, .ref xr, .int (nI nt), .int (nI nk), .int (nI nr), .ref xu, .ref xv, .ref xb, .ref xw, .ref xo, .ref xl, .ref xp, .ref yr, .ref ys, .ref yw, .ref yt, .ref yl, .ref yc, .int (nI wd)]))] sz [.ref mo]) (va_Qi (fun (r : Int32) (u : Unit) => r = th) (fun (u : Unit) (t : State) => va_P D vwCl [(mo, .inr (5, [.int th, .ref xt, .ref xk, .ref xr, .int (nI nt), .int (nI nk), .int (nI nr), .ref xu, .ref xv, .ref xb, .ref xw, .ref xo, .ref xl, .ref xp, .ref yr, .ref ys, .ref yw, .ref yt, .ref yl, .ref yc, .int (nI wd)]))] t.heap ∧ va_D (va_A [(mo, .inr (5, [.int th, .ref xt, .ref xk, .ref xr, .int (nI nt), .int (nI nk), .int (nI nr), .ref xu, .ref xv, .ref xb, .ref xw, .ref xo, .ref xl, .ref xp, .ref yr, .ref ys, .ref yw, .ref yt, .ref yl, .ref yc, .int (nI wd)]))] sz) [(mo, .inr (5, [.int th, .ref xt, .ref xk, .ref xr, .int (nI nt), .int (nI nk), .int (nI nr), .ref xu, .ref xv, .ref xb, .ref xw, .ref xo, .ref xl, .ref xp, .ref yr, .ref ys, .ref yw, .ref yt, .ref yl, .ref yc, .int (nI wd)]))]) (va_A [(mo, .inr (5, [.int th, .ref xt, .ref xk, .ref xr, .int (nI nt), .int (nI nk), .int (nI nr), .ref xu, .ref xv, .ref xb, .ref xw, .ref xo, .ref xl, .ref xp, .ref yr, .ref ys, .ref yw, .ref yt, .ref yl, .ref yc, .int (nI wd)]))] sz)) (0) (0) (va_A [(mo, .inr (5, [.int th, .ref xt, .ref xk, .ref xr, .int (nI nt), .int (nI nk), .int (nI nr), .ref xu, .ref xv, .ref xb, .ref xw, .ref xo, .ref xl, .ref xp, .ref yr, .ref ys, .ref yw, .ref yt, .ref yl, .ref yc, .int (nI wd)]))] sz) := by
  refine Met.ofW (cc := cMd_thrown) (maxL := 1) (ret := (some .int)) (by decide) rfl ?_
  intro p e s m args below meth c s₁ B hml hv
  obtain ⟨rfl, hsz, hP, hK, hD0, hG⟩ := hv
  have hx := B.exec
  have hb := B.bytes
  have hr := B.returns
  have hts : ∀ w ∈ GT, w.before _ s = true := fun w h => atoms_spec (ws := wMd_thrown) B.pre w (List.mem_cons_of_mem _ h)
  have hown : s.vm.findClass R_Md = some m.cls := findClass_of_methodNamed B.named
  have hlocks := B.notSynchronized
  subst hsz
  have hD := hD0.self (sz := s.heap.size)
  generalize hAe : va_A [(mo, .inr (5, [.int th, .ref xt, .ref xk, .ref xr, .int (nI nt), .int (nI nk), .int (nI nr), .ref xu, .ref xv, .ref xb, .ref xw, .ref xo, .ref xl, .ref xp, .ref yr, .ref ys, .ref yw, .ref yt, .ref yl, .ref yc, .int (nI wd)]))] s.heap.size = A at hD hG ⊢
  have hA : ∀ q : Nat, s.heap.size ≤ q → A q := fun q h => by rw [← hAe]; exact Or.inr h
  have hl := lv_entry ([.ref mo]) (n := 1) (Nat.le_of_ble_eq_true rfl)
  rw [lg_entry_eq]
  generalize (lg_sl ([.ref mo]) ++ List.replicate (1 - (lg_sl ([.ref mo])).length) Slot.unset).toArray = ls at hl ⊢
  have hl : lv_has ls 1 [(0, .ref mo)] := hl
  refine cw_start (A := A) hP (fun H locs hP hS => ?_)
  refine lv_aload_n hx hb dMd_thrown_0 rfl (lv_at hl 0 rfl) ?_
  refine va_get (D := D) (ci := 5) (v := .int th) (C := R_Md) (T := T_Md) (N := 21) hx hb hts in_Md hown hK hP 0 rfl rfl 0 (by decide) (hts _ gm_525) (fun _ h9 => h9) rfl dMd_thrown_1 ?_
  refine W.widen (k := 0) (n := 0) (Nat.le_refl _) (Nat.le_refl _) ?_
  exact W.iret (v := th) hx hb hr (fun t ht hW => ⟨⟨th, (), rfl, rfl, by rw [ht]; exact hP, hD⟩, hS.F ht⟩) hS.2.2 dMd_thrown_4
set_option maxHeartbeats 600000 in
set_option maxRecDepth 100000 in
theorem c_r_fail (l : Launch) (D : va_G) (k : Nat → ClassId) (tb : Nat → Nat) (sz : Nat) (mo xt xk xr nt nk nr xu xv xb xw xo xl xp yr ys yw yt yl yc wd : Nat) (th : Int32) (x : Int32) : Met l yMd_fail wMd_fail ({ frames := 0, cells := 0, slots := 0, locals := 0 }) (cP D k tb [(mo, .inr (5, [.int th, .ref xt, .ref xk, .ref xr, .int (nI nt), .int (nI nk), .int (nI nr), .ref xu, .ref xv, .ref xb, .ref xw, .ref xo, .ref xl, .ref xp, .ref yr, .ref ys, .ref yw, .ref yt, .ref yl, .ref yc, .int (nI wd)]))] sz [.ref mo, .int x]) (va_Qi (fun (r : Int32) (u : Unit) => r = nI 0) (fun (u : Unit) (t : State) => va_P D vwCl [(mo, .inr (5, [.int x, .ref xt, .ref xk, .ref xr, .int (nI nt), .int (nI nk), .int (nI nr), .ref xu, .ref xv, .ref xb, .ref xw, .ref xo, .ref xl, .ref xp, .ref yr, .ref ys, .ref yw, .ref yt, .ref yl, .ref yc, .int (nI wd)]))] t.heap ∧ va_D (va_A [(mo, .inr (5, [.int th, .ref xt, .ref xk, .ref xr, .int (nI nt), .int (nI nk), .int (nI nr), .ref xu, .ref xv, .ref xb, .ref xw, .ref xo, .ref xl, .ref xp, .ref yr, .ref ys, .ref yw, .ref yt, .ref yl, .ref yc, .int (nI wd)]))] sz) [(mo, .inr (5, [.int x, .ref xt, .ref xk, .ref xr, .int (nI nt), .int (nI nk), .int (nI nr), .ref xu, .ref xv, .ref xb, .ref xw, .ref xo, .ref xl, .ref xp, .ref yr, .ref ys, .ref yw, .ref yt, .ref yl, .ref yc, .int (nI wd)]))]) (va_A [(mo, .inr (5, [.int th, .ref xt, .ref xk, .ref xr, .int (nI nt), .int (nI nk), .int (nI nr), .ref xu, .ref xv, .ref xb, .ref xw, .ref xo, .ref xl, .ref xp, .ref yr, .ref ys, .ref yw, .ref yt, .ref yl, .ref yc, .int (nI wd)]))] sz)) (0) (0) (va_A [(mo, .inr (5, [.int th, .ref xt, .ref xk, .ref xr, .int (nI nt), .int (nI nk), .int (nI nr), .ref xu, .ref xv, .ref xb, .ref xw, .ref xo, .ref xl, .ref xp, .ref yr, .ref ys, .ref yw, .ref yt, .ref yl, .ref yc, .int (nI wd)]))] sz) := by
  refine Met.ofW (cc := cMd_fail) (maxL := 2) (ret := (some .int)) (by decide) rfl ?_
  intro p e s m args below meth c s₁ B hml hv
  obtain ⟨rfl, hsz, hP, hK, hD0, hG⟩ := hv
  have hx := B.exec
  have hb := B.bytes
  have hr := B.returns
  have hts : ∀ w ∈ GT, w.before _ s = true := fun w h => atoms_spec (ws := wMd_fail) B.pre w (List.mem_cons_of_mem _ h)
  have hown : s.vm.findClass R_Md = some m.cls := findClass_of_methodNamed B.named
  have hlocks := B.notSynchronized
  subst hsz
  have hD := hD0.self (sz := s.heap.size)
  generalize hAe : va_A [(mo, .inr (5, [.int th, .ref xt, .ref xk, .ref xr, .int (nI nt), .int (nI nk), .int (nI nr), .ref xu, .ref xv, .ref xb, .ref xw, .ref xo, .ref xl, .ref xp, .ref yr, .ref ys, .ref yw, .ref yt, .ref yl, .ref yc, .int (nI wd)]))] s.heap.size = A at hD hG ⊢
  have hA : ∀ q : Nat, s.heap.size ≤ q → A q := fun q h => by rw [← hAe]; exact Or.inr h
  have hl := lv_entry ([.ref mo, .int x]) (n := 2) (Nat.le_of_ble_eq_true rfl)
  rw [lg_entry_eq]
  generalize (lg_sl ([.ref mo, .int x]) ++ List.replicate (2 - (lg_sl ([.ref mo, .int x])).length) Slot.unset).toArray = ls at hl ⊢
  have hl : lv_has ls 2 [(0, .ref mo), (1, .int x)] := hl
  refine cw_start (A := A) hP (fun H locs hP hS => ?_)
  refine lv_aload_n hx hb dMd_fail_0 rfl (lv_at hl 0 rfl) ?_
  refine lv_iload_n hx hb dMd_fail_1 rfl (lv_at hl 1 rfl) ?_
  refine va_put (D := D) (ci := 5) (v := .int x) (ty := .int) (C := R_Md) (T := T_Md) (N := 21) hx hb hts in_Md t_Md tk_Md nm_Md hown hK hP hD hS 0 rfl rfl 0 (by decide) (hts _ gm_525) (fun _ h9 => h9) rfl (by decide +kernel) rfl rfl (Nat.le_of_ble_eq_true rfl) dMd_fail_2 (fun H locs hP hD hS => ?_)
  have hP : va_P D vwCl [(mo, .inr (5, [.int x, .ref xt, .ref xk, .ref xr, .int (nI nt), .int (nI nk), .int (nI nr), .ref xu, .ref xv, .ref xb, .ref xw, .ref xo, .ref xl, .ref xp, .ref yr, .ref ys, .ref yw, .ref yt, .ref yl, .ref yc, .int (nI wd)]))] H := hP
  have hD : va_D A [(mo, .inr (5, [.int x, .ref xt, .ref xk, .ref xr, .int (nI nt), .int (nI nk), .int (nI nr), .ref xu, .ref xv, .ref xb, .ref xw, .ref xo, .ref xl, .ref xp, .ref yr, .ref ys, .ref yw, .ref yt, .ref yl, .ref yc, .int (nI wd)]))] := hD
  refine lv_iconst (v := nI 0) hx hb dMd_fail_5 (by decide) ?_
  refine W.widen (k := 0) (n := 0) (Nat.le_refl _) (Nat.le_refl _) ?_
  exact W.iret (v := nI 0) hx hb hr (fun t ht hW => ⟨⟨nI 0, (), rfl, rfl, by rw [ht]; exact hP, hD⟩, hS.F ht⟩) hS.2.2 dMd_fail_6
set_option maxHeartbeats 600000 in
set_option maxRecDepth 100000 in
theorem c_r_end (l : Launch) (D : va_G) (k : Nat → ClassId) (tb : Nat → Nat) (sz : Nat) (mo xt xk xr nt nk nr xu xv xb xw xo xl xp yr ys yw yt yl yc wd : Nat) (th : Int32) (n : Nat) (hn : n ≤ nt) (hnt : nt < 20000) : Met l yMd_end wMd_end ({ frames := 0, cells := 0, slots := 0, locals := 0 }) (cP D k tb [(mo, .inr (5, [.int th, .ref xt, .ref xk, .ref xr, .int (nI nt), .int (nI nk), .int (nI nr), .ref xu, .ref xv, .ref xb, .ref xw, .ref xo, .ref xl, .ref xp, .ref yr, .ref ys, .ref yw, .ref yt, .ref yl, .ref yc, .int (nI wd)]))] sz [.ref mo, .int (nI n)]) (va_Qi (fun (r : Int32) (u : Unit) => r = nI n) (fun (u : Unit) (t : State) => va_P D vwCl [(mo, .inr (5, [.int (nI 0), .ref xt, .ref xk, .ref xr, .int (nI n), .int (nI nk), .int (nI nr), .ref xu, .ref xv, .ref xb, .ref xw, .ref xo, .ref xl, .ref xp, .ref yr, .ref ys, .ref yw, .ref yt, .ref yl, .ref yc, .int (nI wd)]))] t.heap ∧ va_D (va_A [(mo, .inr (5, [.int th, .ref xt, .ref xk, .ref xr, .int (nI nt), .int (nI nk), .int (nI nr), .ref xu, .ref xv, .ref xb, .ref xw, .ref xo, .ref xl, .ref xp, .ref yr, .ref ys, .ref yw, .ref yt, .ref yl, .ref yc, .int (nI wd)]))] sz) [(mo, .inr (5, [.int (nI 0), .ref xt, .ref xk, .ref xr, .int (nI n), .int (nI nk), .int (nI nr), .ref xu, .ref xv, .ref xb, .ref xw, .ref xo, .ref xl, .ref xp, .ref yr, .ref ys, .ref yw, .ref yt, .ref yl, .ref yc, .int (nI wd)]))]) (va_A [(mo, .inr (5, [.int th, .ref xt, .ref xk, .ref xr, .int (nI nt), .int (nI nk), .int (nI nr), .ref xu, .ref xv, .ref xb, .ref xw, .ref xo, .ref xl, .ref xp, .ref yr, .ref ys, .ref yw, .ref yt, .ref yl, .ref yc, .int (nI wd)]))] sz)) (0) (0) (va_A [(mo, .inr (5, [.int th, .ref xt, .ref xk, .ref xr, .int (nI nt), .int (nI nk), .int (nI nr), .ref xu, .ref xv, .ref xb, .ref xw, .ref xo, .ref xl, .ref xp, .ref yr, .ref ys, .ref yw, .ref yt, .ref yl, .ref yc, .int (nI wd)]))] sz) := by
  refine Met.ofW (cc := cMd_end) (maxL := 2) (ret := (some .int)) (by decide) rfl ?_
  intro p e s m args below meth c s₁ B hml hv
  obtain ⟨rfl, hsz, hP, hK, hD0, hG⟩ := hv
  have hx := B.exec
  have hb := B.bytes
  have hr := B.returns
  have hts : ∀ w ∈ GT, w.before _ s = true := fun w h => atoms_spec (ws := wMd_end) B.pre w (List.mem_cons_of_mem _ h)
  have hown : s.vm.findClass R_Md = some m.cls := findClass_of_methodNamed B.named
  have hlocks := B.notSynchronized
  subst hsz
  have hD := hD0.self (sz := s.heap.size)
  generalize hAe : va_A [(mo, .inr (5, [.int th, .ref xt, .ref xk, .ref xr, .int (nI nt), .int (nI nk), .int (nI nr), .ref xu, .ref xv, .ref xb, .ref xw, .ref xo, .ref xl, .ref xp, .ref yr, .ref ys, .ref yw, .ref yt, .ref yl, .ref yc, .int (nI wd)]))] s.heap.size = A at hD hG ⊢
  have hA : ∀ q : Nat, s.heap.size ≤ q → A q := fun q h => by rw [← hAe]; exact Or.inr h
  have hl := lv_entry ([.ref mo, .int (nI n)]) (n := 2) (Nat.le_of_ble_eq_true rfl)
  rw [lg_entry_eq]
  generalize (lg_sl ([.ref mo, .int (nI n)]) ++ List.replicate (2 - (lg_sl ([.ref mo, .int (nI n)])).length) Slot.unset).toArray = ls at hl ⊢
  have hl : lv_has ls 2 [(0, .ref mo), (1, .int (nI n))] := hl
  refine cw_start (A := A) hP (fun H locs hP hS => ?_)
  refine lv_aload_n hx hb dMd_end_0 rfl (lv_at hl 0 rfl) ?_
  refine lv_iconst (v := nI 0) hx hb dMd_end_1 (by decide) ?_
  refine va_put (D := D) (ci := 5) (v := .int (nI 0)) (ty := .int) (C := R_Md) (T := T_Md) (N := 21) hx hb hts in_Md t_Md tk_Md nm_Md hown hK hP hD hS 0 rfl rfl 0 (by decide) (hts _ gm_525) (fun _ h9 => h9) rfl (by decide +kernel) rfl rfl (Nat.le_of_ble_eq_true rfl) dMd_end_2 (fun H locs hP hD hS => ?_)
  have hP : va_P D vwCl [(mo, .inr (5, [.int (nI 0), .ref xt, .ref xk, .ref xr, .int (nI nt), .int (nI nk), .int (nI nr), .ref xu, .ref xv, .ref xb, .ref xw, .ref xo, .ref xl, .ref xp, .ref yr, .ref ys, .ref yw, .ref yt, .ref yl, .ref yc, .int (nI wd)]))] H := hP
  have hD : va_D A [(mo, .inr (5, [.int (nI 0), .ref xt, .ref xk, .ref xr, .int (nI nt), .int (nI nk), .int (nI nr), .ref xu, .ref xv, .ref xb, .ref xw, .ref xo, .ref xl, .ref xp, .ref yr, .ref ys, .ref yw, .ref yt, .ref yl, .ref yc, .int (nI wd)]))] := hD
  refine lv_iload_n hx hb dMd_end_5 rfl (lv_at hl 1 rfl) ?_
  refine rz_lt (tgt := 17) hx hb dMd_end_6 (by decide) (by omega) ?_
  refine lv_iload_n hx hb dMd_end_9 rfl (lv_at hl 1 rfl) ?_
  refine lv_aload_n hx hb dMd_end_10 rfl (lv_at hl 0 rfl) ?_
  refine va_get (D := D) (ci := 5) (v := .int (nI nt)) (C := R_Md) (T := T_Md) (N := 21) hx hb hts in_Md hown hK hP 0 rfl rfl 4 (by decide) (hts _ gm_529) (fun _ h9 => h9) rfl dMd_end_11 ?_
  refine ri_le (tgt := 23) hx hb dMd_end_14 (by decide) (by omega) (by omega) (fun c_14 => ?_) (fun c_14 => absurd c_14 (by omega))
  refine lv_aload_n hx hb dMd_end_23 rfl (lv_at hl 0 rfl) ?_
  refine lv_iload_n hx hb dMd_end_24 rfl (lv_at hl 1 rfl) ?_
  refine va_put (D := D) (ci := 5) (v := .int (nI n)) (ty := .int) (C := R_Md) (T := T_Md) (N := 21) hx hb hts in_Md t_Md tk_Md nm_Md hown hK hP hD hS 0 rfl rfl 4 (by decide) (hts _ gm_529) (fun _ h9 => h9) rfl (by decide +kernel) rfl rfl (Nat.le_of_ble_eq_true rfl) dMd_end_25 (fun H locs hP hD hS => ?_)
  have hP : va_P D vwCl [(mo, .inr (5, [.int (nI 0), .ref xt, .ref xk, .ref xr, .int (nI n), .int (nI nk), .int (nI nr), .ref xu, .ref xv, .ref xb, .ref xw, .ref xo, .ref xl, .ref xp, .ref yr, .ref ys, .ref yw, .ref yt, .ref yl, .ref yc, .int (nI wd)]))] H := hP
  have hD : va_D A [(mo, .inr (5, [.int (nI 0), .ref xt, .ref xk, .ref xr, .int (nI n), .int (nI nk), .int (nI nr), .ref xu, .ref xv, .ref xb, .ref xw, .ref xo, .ref xl, .ref xp, .ref yr, .ref ys, .ref yw, .ref yt, .ref yl, .ref yc, .int (nI wd)]))] := hD
  refine lv_iload_n hx hb dMd_end_28 rfl (lv_at hl 1 rfl) ?_
  refine W.widen (k := 0) (n := 0) (Nat.le_refl _) (Nat.le_refl _) ?_
  exact W.iret (v := nI n) hx hb hr (fun t ht hW => ⟨⟨nI n, (), rfl, rfl, by rw [ht]; exact hP, hD⟩, hS.F ht⟩) hS.2.2 dMd_end_29
set_option maxHeartbeats 600000 in
set_option maxRecDepth 100000 in
theorem t_r_end (l : Launch) (D : va_G) (k : Nat → ClassId) (tb : Nat → Nat) (sz : Nat) (mo xt xk xr nt nk nr xu xv xb xw xo xl xp yr ys yw yt yl yc wd : Nat) (th : Int32) (x : Int32) (hq : ¬ x < 0 → x ≤ nI nt → False) : Met l yMd_end wMd_end ({ frames := 1, cells := 0, slots := 0, locals := 21 }) (cP D k tb [(mo, .inr (5, [.int th, .ref xt, .ref xk, .ref xr, .int (nI nt), .int (nI nk), .int (nI nr), .ref xu, .ref xv, .ref xb, .ref xw, .ref xo, .ref xl, .ref xp, .ref yr, .ref ys, .ref yw, .ref yt, .ref yl, .ref yc, .int (nI wd)]))] sz [.ref mo, .int x]) (va_Qi (fun (r : Int32) (u : Unit) => r = nI 0) (fun (u : Unit) (t : State) => va_P D vwCl [(mo, .inr (5, [.int (nI 1), .ref xt, .ref xk, .ref xr, .int (nI nt), .int (nI nk), .int (nI nr), .ref xu, .ref xv, .ref xb, .ref xw, .ref xo, .ref xl, .ref xp, .ref yr, .ref ys, .ref yw, .ref yt, .ref yl, .ref yc, .int (nI wd)]))] t.heap ∧ va_D (va_A [(mo, .inr (5, [.int th, .ref xt, .ref xk, .ref xr, .int (nI nt), .int (nI nk), .int (nI nr), .ref xu, .ref xv, .ref xb, .ref xw, .ref xo, .ref xl, .ref xp, .ref yr, .ref ys, .ref yw, .ref yt, .ref yl, .ref yc, .int (nI wd)]))] sz) [(mo, .inr (5, [.int (nI 1), .ref xt, .ref xk, .ref xr, .int (nI nt), .int (nI nk), .int (nI nr), .ref xu, .ref xv, .ref xb, .ref xw, .ref xo, .ref xl, .ref xp, .ref yr, .ref ys, .ref yw, .ref yt, .ref yl, .ref yc, .int (nI wd)]))]) (va_A [(mo, .inr (5, [.int th, .ref xt, .ref xk, .ref xr, .int (nI nt), .int (nI nk), .int (nI nr), .ref xu, .ref xv, .ref xb, .ref xw, .ref xo, .ref xl, .ref xp, .ref yr, .ref ys, .ref yw, .ref yt, .ref yl, .ref yc, .int (nI wd)]))] sz)) (0) (0) (va_A [(mo, .inr (5, [.int th, .ref xt, .ref xk, .ref xr, .int (nI nt), .int (nI nk), .int (nI nr), .ref xu, .ref xv, .ref xb, .ref xw, .ref xo, .ref xl, .ref xp, .ref yr, .ref ys, .ref yw, .ref yt, .ref yl, .ref yc, .int (nI wd)]))] sz) := by
  refine Met.ofW (cc := cMd_end) (maxL := 2) (ret := (some .int)) (by decide) rfl ?_
  intro p e s m args below meth c s₁ B hml hv
  obtain ⟨rfl, hsz, hP, hK, hD0, hG⟩ := hv
  have hx := B.exec
  have hb := B.bytes
  have hr := B.returns
  have hts : ∀ w ∈ GT, w.before _ s = true := fun w h => atoms_spec (ws := wMd_end) B.pre w (List.mem_cons_of_mem _ h)
  have hown : s.vm.findClass R_Md = some m.cls := findClass_of_methodNamed B.named
  have hlocks := B.notSynchronized
  subst hsz
  have hD := hD0.self (sz := s.heap.size)
  generalize hAe : va_A [(mo, .inr (5, [.int th, .ref xt, .ref xk, .ref xr, .int (nI nt), .int (nI nk), .int (nI nr), .ref xu, .ref xv, .ref xb, .ref xw, .ref xo, .ref xl, .ref xp, .ref yr, .ref ys, .ref yw, .ref yt, .ref yl, .ref yc, .int (nI wd)]))] s.heap.size = A at hD hG ⊢
  have hA : ∀ q : Nat, s.heap.size ≤ q → A q := fun q h => by rw [← hAe]; exact Or.inr h
  have hl := lv_entry ([.ref mo, .int x]) (n := 2) (Nat.le_of_ble_eq_true rfl)
  rw [lg_entry_eq]
  generalize (lg_sl ([.ref mo, .int x]) ++ List.replicate (2 - (lg_sl ([.ref mo, .int x])).length) Slot.unset).toArray = ls at hl ⊢
  have hl : lv_has ls 2 [(0, .ref mo), (1, .int x)] := hl
  refine cw_start (A := A) hP (fun H locs hP hS => ?_)
  refine lv_aload_n hx hb dMd_end_0 rfl (lv_at hl 0 rfl) ?_
  refine lv_iconst (v := nI 0) hx hb dMd_end_1 (by decide) ?_
  refine va_put (D := D) (ci := 5) (v := .int (nI 0)) (ty := .int) (C := R_Md) (T := T_Md) (N := 21) hx hb hts in_Md t_Md tk_Md nm_Md hown hK hP hD hS 0 rfl rfl 0 (by decide) (hts _ gm_525) (fun _ h9 => h9) rfl (by decide +kernel) rfl rfl (Nat.le_of_ble_eq_true rfl) dMd_end_2 (fun H locs hP hD hS => ?_)
  have hP : va_P D vwCl [(mo, .inr (5, [.int (nI 0), .ref xt, .ref xk, .ref xr, .int (nI nt), .int (nI nk), .int (nI nr), .ref xu, .ref xv, .ref xb, .ref xw, .ref xo, .ref xl, .ref xp, .ref yr, .ref ys, .ref yw, .ref yt, .ref yl, .ref yc, .int (nI wd)]))] H := hP
  have hD : va_D A [(mo, .inr (5, [.int (nI 0), .ref xt, .ref xk, .ref xr, .int (nI nt), .int (nI nk), .int (nI nr), .ref xu, .ref xv, .ref xb, .ref xw, .ref xo, .ref xl, .ref xp, .ref yr, .ref ys, .ref yw, .ref yt, .ref yl, .ref yc, .int (nI wd)]))] := hD
  refine lv_iload_n hx hb dMd_end_5 rfl (lv_at hl 1 rfl) ?_
  refine lv_if_lt (tgt := 17) hx hb dMd_end_6 (by decide) (fun c_6 => ?_) (fun c_6 => ?_)
  · skip
    refine lv_aload_n hx hb dMd_end_17 rfl (lv_at hl 0 rfl) ?_
    refine lv_iconst (v := nI 1) hx hb dMd_end_18 (by decide) ?_
    refine rc_i (wr := []) (va_runV (As := [.int (nI 1)]) (rest := []) ⟨hx, hb, hml, hown, hts⟩ (c_r_fail l D k tb H.size mo xt xk xr nt nk nr xu xv xb xw xo xl xp yr ys yw yt yl yc wd (nI 0) (nI 1)) (cwV 1 hts (gV gm_576 gm_577 gm_39 gm_57 gm_578) rfl rfl rfl (by decide +kernel) ⟨Nat.le_of_ble_eq_true rfl, Nat.le_of_ble_eq_true rfl⟩) (cP_V hP hD hK hG hS hA [0] (by decide) rfl (ci := 5) (q0 := 0) rfl rfl) rfl rfl hl.1 rfl (lv_room (Nat.le_of_ble_eq_true rfl)) dMd_end_19 ⟨Nat.le_of_ble_eq_true rfl, Nat.le_of_ble_eq_true rfl⟩) hS hA hP hD [0] [] rfl rfl (by decide) (by decide) (fun r1 u H locs hw hP hD hS => ?_)
    have hP : va_P D vwCl [(mo, .inr (5, [.int (nI 1), .ref xt, .ref xk, .ref xr, .int (nI nt), .int (nI nk), .int (nI nr), .ref xu, .ref xv, .ref xb, .ref xw, .ref xo, .ref xl, .ref xp, .ref yr, .ref ys, .ref yw, .ref yt, .ref yl, .ref yc, .int (nI wd)]))] H := hP
    have hD : va_D A [(mo, .inr (5, [.int (nI 1), .ref xt, .ref xk, .ref xr, .int (nI nt), .int (nI nk), .int (nI nr), .ref xu, .ref xv, .ref xb, .ref xw, .ref xo, .ref xl, .ref xp, .ref yr, .ref ys, .ref yw, .ref yt, .ref yl, .ref yc, .int (nI wd)]))] := hD
    subst hw
    refine W.widen (k := 0) (n := 0) (Nat.le_refl _) (Nat.le_refl _) ?_
    exact W.iret (v := nI 0) hx hb hr (fun t ht hW => ⟨⟨nI 0, (), rfl, rfl, by rw [ht]; exact hP, hD⟩, hS.F ht⟩) hS.2.2 dMd_end_22
  · skip
    refine lv_iload_n hx hb dMd_end_9 rfl (lv_at hl 1 rfl) ?_
    refine lv_aload_n hx hb dMd_end_10 rfl (lv_at hl 0 rfl) ?_
    refine va_get (D := D) (ci := 5) (v := .int (nI nt)) (C := R_Md) (T := T_Md) (N := 21) hx hb hts in_Md hown hK hP 0 rfl rfl 4 (by decide) (hts _ gm_529) (fun _ h9 => h9) rfl dMd_end_11 ?_
    refine lv_icmp_le (tgt := 23) hx hb dMd_end_14 (by decide) (fun c_14 => ?_) (fun c_14 => ?_)
    · skip
      exact (hq c_6 c_14).elim
    · skip
      refine lv_aload_n hx hb dMd_end_17 rfl (lv_at hl 0 rfl) ?_
      refine lv_iconst (v := nI 1) hx hb dMd_end_18 (by decide) ?_
      refine rc_i (wr := []) (va_runV (As := [.int (nI 1)]) (rest := []) ⟨hx, hb, hml, hown, hts⟩ (c_r_fail l D k tb H.size mo xt xk xr nt nk nr xu xv xb xw xo xl xp yr ys yw yt yl yc wd (nI 0) (nI 1)) (cwV 1 hts (gV gm_576 gm_577 gm_39 gm_57 gm_578) rfl rfl rfl (by decide +kernel) ⟨Nat.le_of_ble_eq_true rfl, Nat.le_of_ble_eq_true rfl⟩) (cP_V hP hD hK hG hS hA [0] (by decide) rfl (ci := 5) (q0 := 0) rfl rfl) rfl rfl hl.1 rfl (lv_room (Nat.le_of_ble_eq_true rfl)) dMd_end_19 ⟨Nat.le_of_ble_eq_true rfl, Nat.le_of_ble_eq_true rfl⟩) hS hA hP hD [0] [] rfl rfl (by decide) (by decide) (fun r1 u H locs hw hP hD hS => ?_)
      have hP : va_P D vwCl [(mo, .inr (5, [.int (nI 1), .ref xt, .ref xk, .ref xr, .int (nI nt), .int (nI nk), .int (nI nr), .ref xu, .ref xv, .ref xb, .ref xw, .ref xo, .ref xl, .ref xp, .ref yr, .ref ys, .ref yw, .ref yt, .ref yl, .ref yc, .int (nI wd)]))] H := hP
      have hD : va_D A [(mo, .inr (5, [.int (nI 1), .ref xt, .ref xk, .ref xr, .int (nI nt), .int (nI nk), .int (nI nr), .ref xu, .ref xv, .ref xb, .ref xw, .ref xo, .ref xl, .ref xp, .ref yr, .ref ys, .ref yw, .ref yt, .ref yl, .ref yc, .int (nI wd)]))] := hD
      subst hw
      refine W.widen (k := 0) (n := 0) (Nat.le_refl _) (Nat.le_refl _) ?_
      exact W.iret (v := nI 0) hx hb hr (fun t ht hW => ⟨⟨nI 0, (), rfl, rfl, by rw [ht]; exact hP, hD⟩, hS.F ht⟩) hS.2.2 dMd_end_22
set_option maxHeartbeats 600000 in
set_option maxRecDepth 100000 in
theorem c_r_result (l : Launch) (D : va_G) (k : Nat → ClassId) (tb : Nat → Nat) (sz : Nat) (mo xt xk xr nt nk nr xu xv xb xw xo xl xp yr ys yw yt yl yc wd : Nat) (th : Int32) (i : Nat) (hi : i < nr) (hnr : nr ≤ 16384) (fr : Nat → Int8) : Met l yMd_result wMd_result ({ frames := 0, cells := 0, slots := 0, locals := 0 }) (cP D k tb [(mo, .inr (5, [.int th, .ref xt, .ref xk, .ref xr, .int (nI nt), .int (nI nk), .int (nI nr), .ref xu, .ref xv, .ref xb, .ref xw, .ref xo, .ref xl, .ref xp, .ref yr, .ref ys, .ref yw, .ref yt, .ref yl, .ref yc, .int (nI wd)])), (xr, .inl (k 0, 16384, .inl (by_ fr)))] sz [.ref mo, .int (nI i)]) (va_Qi (fun (r : Int32) (u : Unit) => r = (fr i).toInt32 &&& 255) (fun (u : Unit) (t : State) => va_P D vwCl [(mo, .inr (5, [.int (nI 0), .ref xt, .ref xk, .ref xr, .int (nI nt), .int (nI nk), .int (nI nr), .ref xu, .ref xv, .ref xb, .ref xw, .ref xo, .ref xl, .ref xp, .ref yr, .ref ys, .ref yw, .ref yt, .ref yl, .ref yc, .int (nI wd)])), (xr, .inl (k 0, 16384, .inl (by_ fr)))] t.heap ∧ va_D (va_A [(mo, .inr (5, [.int th, .ref xt, .ref xk, .ref xr, .int (nI nt), .int (nI nk), .int (nI nr), .ref xu, .ref xv, .ref xb, .ref xw, .ref xo, .ref xl, .ref xp, .ref yr, .ref ys, .ref yw, .ref yt, .ref yl, .ref yc, .int (nI wd)])), (xr, .inl (k 0, 16384, .inl (by_ fr)))] sz) [(mo, .inr (5, [.int (nI 0), .ref xt, .ref xk, .ref xr, .int (nI nt), .int (nI nk), .int (nI nr), .ref xu, .ref xv, .ref xb, .ref xw, .ref xo, .ref xl, .ref xp, .ref yr, .ref ys, .ref yw, .ref yt, .ref yl, .ref yc, .int (nI wd)])), (xr, .inl (k 0, 16384, .inl (by_ fr)))]) (va_A [(mo, .inr (5, [.int th, .ref xt, .ref xk, .ref xr, .int (nI nt), .int (nI nk), .int (nI nr), .ref xu, .ref xv, .ref xb, .ref xw, .ref xo, .ref xl, .ref xp, .ref yr, .ref ys, .ref yw, .ref yt, .ref yl, .ref yc, .int (nI wd)])), (xr, .inl (k 0, 16384, .inl (by_ fr)))] sz)) (0) (0) (va_A [(mo, .inr (5, [.int th, .ref xt, .ref xk, .ref xr, .int (nI nt), .int (nI nk), .int (nI nr), .ref xu, .ref xv, .ref xb, .ref xw, .ref xo, .ref xl, .ref xp, .ref yr, .ref ys, .ref yw, .ref yt, .ref yl, .ref yc, .int (nI wd)])), (xr, .inl (k 0, 16384, .inl (by_ fr)))] sz) := by
  refine Met.ofW (cc := cMd_result) (maxL := 2) (ret := (some .int)) (by decide) rfl ?_
  intro p e s m args below meth c s₁ B hml hv
  obtain ⟨rfl, hsz, hP, hK, hD0, hG⟩ := hv
  have hx := B.exec
  have hb := B.bytes
  have hr := B.returns
  have hts : ∀ w ∈ GT, w.before _ s = true := fun w h => atoms_spec (ws := wMd_result) B.pre w (List.mem_cons_of_mem _ h)
  have hown : s.vm.findClass R_Md = some m.cls := findClass_of_methodNamed B.named
  have hlocks := B.notSynchronized
  subst hsz
  have hD := hD0.self (sz := s.heap.size)
  generalize hAe : va_A [(mo, .inr (5, [.int th, .ref xt, .ref xk, .ref xr, .int (nI nt), .int (nI nk), .int (nI nr), .ref xu, .ref xv, .ref xb, .ref xw, .ref xo, .ref xl, .ref xp, .ref yr, .ref ys, .ref yw, .ref yt, .ref yl, .ref yc, .int (nI wd)])), (xr, .inl (k 0, 16384, .inl (by_ fr)))] s.heap.size = A at hD hG ⊢
  have hA : ∀ q : Nat, s.heap.size ≤ q → A q := fun q h => by rw [← hAe]; exact Or.inr h
  have hl := lv_entry ([.ref mo, .int (nI i)]) (n := 2) (Nat.le_of_ble_eq_true rfl)
  rw [lg_entry_eq]
  generalize (lg_sl ([.ref mo, .int (nI i)]) ++ List.replicate (2 - (lg_sl ([.ref mo, .int (nI i)])).length) Slot.unset).toArray = ls at hl ⊢
  have hl : lv_has ls 2 [(0, .ref mo), (1, .int (nI i))] := hl
  refine cw_start (A := A) hP (fun H locs hP hS => ?_)
  refine lv_aload_n hx hb dMd_result_0 rfl (lv_at hl 0 rfl) ?_
  refine lv_iconst (v := nI 0) hx hb dMd_result_1 (by decide) ?_
  refine va_put (D := D) (ci := 5) (v := .int (nI 0)) (ty := .int) (C := R_Md) (T := T_Md) (N := 21) hx hb hts in_Md t_Md tk_Md nm_Md hown hK hP hD hS 0 rfl rfl 0 (by decide) (hts _ gm_525) (fun _ h9 => h9) rfl (by decide +kernel) rfl rfl (Nat.le_of_ble_eq_true rfl) dMd_result_2 (fun H locs hP hD hS => ?_)
  have hP : va_P D vwCl [(mo, .inr (5, [.int (nI 0), .ref xt, .ref xk, .ref xr, .int (nI nt), .int (nI nk), .int (nI nr), .ref xu, .ref xv, .ref xb, .ref xw, .ref xo, .ref xl, .ref xp, .ref yr, .ref ys, .ref yw, .ref yt, .ref yl, .ref yc, .int (nI wd)])), (xr, .inl (k 0, 16384, .inl (by_ fr)))] H := hP
  have hD : va_D A [(mo, .inr (5, [.int (nI 0), .ref xt, .ref xk, .ref xr, .int (nI nt), .int (nI nk), .int (nI nr), .ref xu, .ref xv, .ref xb, .ref xw, .ref xo, .ref xl, .ref xp, .ref yr, .ref ys, .ref yw, .ref yt, .ref yl, .ref yc, .int (nI wd)])), (xr, .inl (k 0, 16384, .inl (by_ fr)))] := hD
  refine lv_iload_n hx hb dMd_result_5 rfl (lv_at hl 1 rfl) ?_
  refine rz_lt (tgt := 17) hx hb dMd_result_6 (by decide) (by omega) ?_
  refine lv_iload_n hx hb dMd_result_9 rfl (lv_at hl 1 rfl) ?_
  refine lv_aload_n hx hb dMd_result_10 rfl (lv_at hl 0 rfl) ?_
  refine va_get (D := D) (ci := 5) (v := .int (nI nr)) (C := R_Md) (T := T_Md) (N := 21) hx hb hts in_Md hown hK hP 0 rfl rfl 6 (by decide) (hts _ gm_531) (fun _ h9 => h9) rfl dMd_result_11 ?_
  refine ri_lt (tgt := 23) hx hb dMd_result_14 (by decide) (by omega) (by omega) (fun c_14 => ?_) (fun c_14 => absurd c_14 (by omega))
  refine lv_aload_n hx hb dMd_result_23 rfl (lv_at hl 0 rfl) ?_
  refine va_get (D := D) (ci := 5) (v := .ref xr) (C := R_Md) (T := T_Md) (N := 21) hx hb hts in_Md hown hK hP 0 rfl rfl 3 (by decide) (hts _ gm_528) (fun _ h9 => h9) rfl dMd_result_24 ?_
  refine lv_iload_n hx hb dMd_result_27 rfl (lv_at hl 1 rfl) ?_
  refine rb_ld hx hb hK hP 1 0 rfl rfl (by omega) (by omega) dMd_result_28 ?_
  refine lv_sipush (v := 255) hx hb dMd_result_29 (by decide) ?_
  refine lv_iand hx hb dMd_result_32 ?_
  refine W.widen (k := 0) (n := 0) (Nat.le_refl _) (Nat.le_refl _) ?_
  exact W.iret (v := ((fr i).toInt32) &&& 255) hx hb hr (fun t ht hW => ⟨⟨((fr i).toInt32) &&& 255, (), rfl, rfl, by rw [ht]; exact hP, hD⟩, hS.F ht⟩) hS.2.2 dMd_result_33
set_option maxHeartbeats 600000 in
set_option maxRecDepth 100000 in
theorem t_r_result (l : Launch) (D : va_G) (k : Nat → ClassId) (tb : Nat → Nat) (sz : Nat) (mo xt xk xr nt nk nr xu xv xb xw xo xl xp yr ys yw yt yl yc wd : Nat) (th : Int32) (x : Int32) (hq : ¬ x < 0 → x < nI nr → False) : Met l yMd_result wMd_result ({ frames := 1, cells := 0, slots := 0, locals := 21 }) (cP D k tb [(mo, .inr (5, [.int th, .ref xt, .ref xk, .ref xr, .int (nI nt), .int (nI nk), .int (nI nr), .ref xu, .ref xv, .ref xb, .ref xw, .ref xo, .ref xl, .ref xp, .ref yr, .ref ys, .ref yw, .ref yt, .ref yl, .ref yc, .int (nI wd)]))] sz [.ref mo, .int x]) (va_Qi (fun (r : Int32) (u : Unit) => r = nI 0) (fun (u : Unit) (t : State) => va_P D vwCl [(mo, .inr (5, [.int (nI 1), .ref xt, .ref xk, .ref xr, .int (nI nt), .int (nI nk), .int (nI nr), .ref xu, .ref xv, .ref xb, .ref xw, .ref xo, .ref xl, .ref xp, .ref yr, .ref ys, .ref yw, .ref yt, .ref yl, .ref yc, .int (nI wd)]))] t.heap ∧ va_D (va_A [(mo, .inr (5, [.int th, .ref xt, .ref xk, .ref xr, .int (nI nt), .int (nI nk), .int (nI nr), .ref xu, .ref xv, .ref xb, .ref xw, .ref xo, .ref xl, .ref xp, .ref yr, .ref ys, .ref yw, .ref yt, .ref yl, .ref yc, .int (nI wd)]))] sz) [(mo, .inr (5, [.int (nI 1), .ref xt, .ref xk, .ref xr, .int (nI nt), .int (nI nk), .int (nI nr), .ref xu, .ref xv, .ref xb, .ref xw, .ref xo, .ref xl, .ref xp, .ref yr, .ref ys, .ref yw, .ref yt, .ref yl, .ref yc, .int (nI wd)]))]) (va_A [(mo, .inr (5, [.int th, .ref xt, .ref xk, .ref xr, .int (nI nt), .int (nI nk), .int (nI nr), .ref xu, .ref xv, .ref xb, .ref xw, .ref xo, .ref xl, .ref xp, .ref yr, .ref ys, .ref yw, .ref yt, .ref yl, .ref yc, .int (nI wd)]))] sz)) (0) (0) (va_A [(mo, .inr (5, [.int th, .ref xt, .ref xk, .ref xr, .int (nI nt), .int (nI nk), .int (nI nr), .ref xu, .ref xv, .ref xb, .ref xw, .ref xo, .ref xl, .ref xp, .ref yr, .ref ys, .ref yw, .ref yt, .ref yl, .ref yc, .int (nI wd)]))] sz) := by
  refine Met.ofW (cc := cMd_result) (maxL := 2) (ret := (some .int)) (by decide) rfl ?_
  intro p e s m args below meth c s₁ B hml hv
  obtain ⟨rfl, hsz, hP, hK, hD0, hG⟩ := hv
  have hx := B.exec
  have hb := B.bytes
  have hr := B.returns
  have hts : ∀ w ∈ GT, w.before _ s = true := fun w h => atoms_spec (ws := wMd_result) B.pre w (List.mem_cons_of_mem _ h)
  have hown : s.vm.findClass R_Md = some m.cls := findClass_of_methodNamed B.named
  have hlocks := B.notSynchronized
  subst hsz
  have hD := hD0.self (sz := s.heap.size)
  generalize hAe : va_A [(mo, .inr (5, [.int th, .ref xt, .ref xk, .ref xr, .int (nI nt), .int (nI nk), .int (nI nr), .ref xu, .ref xv, .ref xb, .ref xw, .ref xo, .ref xl, .ref xp, .ref yr, .ref ys, .ref yw, .ref yt, .ref yl, .ref yc, .int (nI wd)]))] s.heap.size = A at hD hG ⊢
  have hA : ∀ q : Nat, s.heap.size ≤ q → A q := fun q h => by rw [← hAe]; exact Or.inr h
  have hl := lv_entry ([.ref mo, .int x]) (n := 2) (Nat.le_of_ble_eq_true rfl)
  rw [lg_entry_eq]
  generalize (lg_sl ([.ref mo, .int x]) ++ List.replicate (2 - (lg_sl ([.ref mo, .int x])).length) Slot.unset).toArray = ls at hl ⊢
  have hl : lv_has ls 2 [(0, .ref mo), (1, .int x)] := hl
  refine cw_start (A := A) hP (fun H locs hP hS => ?_)
  refine lv_aload_n hx hb dMd_result_0 rfl (lv_at hl 0 rfl) ?_
  refine lv_iconst (v := nI 0) hx hb dMd_result_1 (by decide) ?_
  refine va_put (D := D) (ci := 5) (v := .int (nI 0)) (ty := .int) (C := R_Md) (T := T_Md) (N := 21) hx hb hts in_Md t_Md tk_Md nm_Md hown hK hP hD hS 0 rfl rfl 0 (by decide) (hts _ gm_525) (fun _ h9 => h9) rfl (by decide +kernel) rfl rfl (Nat.le_of_ble_eq_true rfl) dMd_result_2 (fun H locs hP hD hS => ?_)
  have hP : va_P D vwCl [(mo, .inr (5, [.int (nI 0), .ref xt, .ref xk, .ref xr, .int (nI nt), .int (nI nk), .int (nI nr), .ref xu, .ref xv, .ref xb, .ref xw, .ref xo, .ref xl, .ref xp, .ref yr, .ref ys, .ref yw, .ref yt, .ref yl, .ref yc, .int (nI wd)]))] H := hP
  have hD : va_D A [(mo, .inr (5, [.int (nI 0), .ref xt, .ref xk, .ref xr, .int (nI nt), .int (nI nk), .int (nI nr), .ref xu, .ref xv, .ref xb, .ref xw, .ref xo, .ref xl, .ref xp, .ref yr, .ref ys, .ref yw, .ref yt, .ref yl, .ref yc, .int (nI wd)]))] := hD
  refine lv_iload_n hx hb dMd_result_5 rfl (lv_at hl 1 rfl) ?_
  refine lv_if_lt (tgt := 17) hx hb dMd_result_6 (by decide) (fun c_6 => ?_) (fun c_6 => ?_)
  · skip
    refine lv_aload_n hx hb dMd_result_17 rfl (lv_at hl 0 rfl) ?_
    refine lv_iconst (v := nI 1) hx hb dMd_result_18 (by decide) ?_
    refine rc_i (wr := []) (va_runV (As := [.int (nI 1)]) (rest := []) ⟨hx, hb, hml, hown, hts⟩ (c_r_fail l D k tb H.size mo xt xk xr nt nk nr xu xv xb xw xo xl xp yr ys yw yt yl yc wd (nI 0) (nI 1)) (cwV 1 hts (gV gm_576 gm_577 gm_39 gm_57 gm_578) rfl rfl rfl (by decide +kernel) ⟨Nat.le_of_ble_eq_true rfl, Nat.le_of_ble_eq_true rfl⟩) (cP_V hP hD hK hG hS hA [0] (by decide) rfl (ci := 5) (q0 := 0) rfl rfl) rfl rfl hl.1 rfl (lv_room (Nat.le_of_ble_eq_true rfl)) dMd_result_19 ⟨Nat.le_of_ble_eq_true rfl, Nat.le_of_ble_eq_true rfl⟩) hS hA hP hD [0] [] rfl rfl (by decide) (by decide) (fun r1 u H locs hw hP hD hS => ?_)
    have hP : va_P D vwCl [(mo, .inr (5, [.int (nI 1), .ref xt, .ref xk, .ref xr, .int (nI nt), .int (nI nk), .int (nI nr), .ref xu, .ref xv, .ref xb, .ref xw, .ref xo, .ref xl, .ref xp, .ref yr, .ref ys, .ref yw, .ref yt, .ref yl, .ref yc, .int (nI wd)]))] H := hP
    have hD : va_D A [(mo, .inr (5, [.int (nI 1), .ref xt, .ref xk, .ref xr, .int (nI nt), .int (nI nk), .int (nI nr), .ref xu, .ref xv, .ref xb, .ref xw, .ref xo, .ref xl, .ref xp, .ref yr, .ref ys, .ref yw, .ref yt, .ref yl, .ref yc, .int (nI wd)]))] := hD
    subst hw
    refine W.widen (k := 0) (n := 0) (Nat.le_refl _) (Nat.le_refl _) ?_
    exact W.iret (v := nI 0) hx hb hr (fun t ht hW => ⟨⟨nI 0, (), rfl, rfl, by rw [ht]; exact hP, hD⟩, hS.F ht⟩) hS.2.2 dMd_result_22
  · skip
    refine lv_iload_n hx hb dMd_result_9 rfl (lv_at hl 1 rfl) ?_
    refine lv_aload_n hx hb dMd_result_10 rfl (lv_at hl 0 rfl) ?_
    refine va_get (D := D) (ci := 5) (v := .int (nI nr)) (C := R_Md) (T := T_Md) (N := 21) hx hb hts in_Md hown hK hP 0 rfl rfl 6 (by decide) (hts _ gm_531) (fun _ h9 => h9) rfl dMd_result_11 ?_
    refine lv_icmp_lt (tgt := 23) hx hb dMd_result_14 (by decide) (fun c_14 => ?_) (fun c_14 => ?_)
    · skip
      exact (hq c_6 c_14).elim
    · skip
      refine lv_aload_n hx hb dMd_result_17 rfl (lv_at hl 0 rfl) ?_
      refine lv_iconst (v := nI 1) hx hb dMd_result_18 (by decide) ?_
      refine rc_i (wr := []) (va_runV (As := [.int (nI 1)]) (rest := []) ⟨hx, hb, hml, hown, hts⟩ (c_r_fail l D k tb H.size mo xt xk xr nt nk nr xu xv xb xw xo xl xp yr ys yw yt yl yc wd (nI 0) (nI 1)) (cwV 1 hts (gV gm_576 gm_577 gm_39 gm_57 gm_578) rfl rfl rfl (by decide +kernel) ⟨Nat.le_of_ble_eq_true rfl, Nat.le_of_ble_eq_true rfl⟩) (cP_V hP hD hK hG hS hA [0] (by decide) rfl (ci := 5) (q0 := 0) rfl rfl) rfl rfl hl.1 rfl (lv_room (Nat.le_of_ble_eq_true rfl)) dMd_result_19 ⟨Nat.le_of_ble_eq_true rfl, Nat.le_of_ble_eq_true rfl⟩) hS hA hP hD [0] [] rfl rfl (by decide) (by decide) (fun r1 u H locs hw hP hD hS => ?_)
      have hP : va_P D vwCl [(mo, .inr (5, [.int (nI 1), .ref xt, .ref xk, .ref xr, .int (nI nt), .int (nI nk), .int (nI nr), .ref xu, .ref xv, .ref xb, .ref xw, .ref xo, .ref xl, .ref xp, .ref yr, .ref ys, .ref yw, .ref yt, .ref yl, .ref yc, .int (nI wd)]))] H := hP
      have hD : va_D A [(mo, .inr (5, [.int (nI 1), .ref xt, .ref xk, .ref xr, .int (nI nt), .int (nI nk), .int (nI nr), .ref xu, .ref xv, .ref xb, .ref xw, .ref xo, .ref xl, .ref xp, .ref yr, .ref ys, .ref yw, .ref yt, .ref yl, .ref yc, .int (nI wd)]))] := hD
      subst hw
      refine W.widen (k := 0) (n := 0) (Nat.le_refl _) (Nat.le_refl _) ?_
      exact W.iret (v := nI 0) hx hb hr (fun t ht hW => ⟨⟨nI 0, (), rfl, rfl, by rw [ht]; exact hP, hD⟩, hS.F ht⟩) hS.2.2 dMd_result_22
set_option maxHeartbeats 600000 in
set_option maxRecDepth 100000 in
theorem c_r_count0 (l : Launch) (D : va_G) (k : Nat → ClassId) (tb : Nat → Nat) (sz : Nat) (mo xt xk xr nt nk nr xu xv xb xw xo xl xp yr ys yw yt yl yc wd : Nat) (th : Int32) : Met l yMd_count wMd_count ({ frames := 0, cells := 0, slots := 0, locals := 0 }) (cP D k tb [(mo, .inr (5, [.int th, .ref xt, .ref xk, .ref xr, .int (nI nt), .int (nI nk), .int (nI nr), .ref xu, .ref xv, .ref xb, .ref xw, .ref xo, .ref xl, .ref xp, .ref yr, .ref ys, .ref yw, .ref yt, .ref yl, .ref yc, .int (nI wd)]))] sz [.ref mo, .int (nI 0)]) (va_Qi (fun (r : Int32) (u : Unit) => r = nI nt) (fun (u : Unit) (t : State) => va_P D vwCl [(mo, .inr (5, [.int (nI 0), .ref xt, .ref xk, .ref xr, .int (nI nt), .int (nI nk), .int (nI nr), .ref xu, .ref xv, .ref xb, .ref xw, .ref xo, .ref xl, .ref xp, .ref yr, .ref ys, .ref yw, .ref yt, .ref yl, .ref yc, .int (nI wd)]))] t.heap ∧ va_D (va_A [(mo, .inr (5, [.int th, .ref xt, .ref xk, .ref xr, .int (nI nt), .int (nI nk), .int (nI nr), .ref xu, .ref xv, .ref xb, .ref xw, .ref xo, .ref xl, .ref xp, .ref yr, .ref ys, .ref yw, .ref yt, .ref yl, .ref yc, .int (nI wd)]))] sz) [(mo, .inr (5, [.int (nI 0), .ref xt, .ref xk, .ref xr, .int (nI nt), .int (nI nk), .int (nI nr), .ref xu, .ref xv, .ref xb, .ref xw, .ref xo, .ref xl, .ref xp, .ref yr, .ref ys, .ref yw, .ref yt, .ref yl, .ref yc, .int (nI wd)]))]) (va_A [(mo, .inr (5, [.int th, .ref xt, .ref xk, .ref xr, .int (nI nt), .int (nI nk), .int (nI nr), .ref xu, .ref xv, .ref xb, .ref xw, .ref xo, .ref xl, .ref xp, .ref yr, .ref ys, .ref yw, .ref yt, .ref yl, .ref yc, .int (nI wd)]))] sz)) (0) (0) (va_A [(mo, .inr (5, [.int th, .ref xt, .ref xk, .ref xr, .int (nI nt), .int (nI nk), .int (nI nr), .ref xu, .ref xv, .ref xb, .ref xw, .ref xo, .ref xl, .ref xp, .ref yr, .ref ys, .ref yw, .ref yt, .ref yl, .ref yc, .int (nI wd)]))] sz) := by
  refine Met.ofW (cc := cMd_count) (maxL := 2) (ret := (some .int)) (by decide) rfl ?_
  intro p e s m args below meth c s₁ B hml hv
  obtain ⟨rfl, hsz, hP, hK, hD0, hG⟩ := hv
  have hx := B.exec
  have hb := B.bytes
  have hr := B.returns
  have hts : ∀ w ∈ GT, w.before _ s = true := fun w h => atoms_spec (ws := wMd_count) B.pre w (List.mem_cons_of_mem _ h)
  have hown : s.vm.findClass R_Md = some m.cls := findClass_of_methodNamed B.named
  have hlocks := B.notSynchronized
  subst hsz
  have hD := hD0.self (sz := s.heap.size)
  generalize hAe : va_A [(mo, .inr (5, [.int th, .ref xt, .ref xk, .ref xr, .int (nI nt), .int (nI nk), .int (nI nr), .ref xu, .ref xv, .ref xb, .ref xw, .ref xo, .ref xl, .ref xp, .ref yr, .ref ys, .ref yw, .ref yt, .ref yl, .ref yc, .int (nI wd)]))] s.heap.size = A at hD hG ⊢
  have hA : ∀ q : Nat, s.heap.size ≤ q → A q := fun q h => by rw [← hAe]; exact Or.inr h
  have hl := lv_entry ([.ref mo, .int (nI 0)]) (n := 2) (Nat.le_of_ble_eq_true rfl)
  rw [lg_entry_eq]
  generalize (lg_sl ([.ref mo, .int (nI 0)]) ++ List.replicate (2 - (lg_sl ([.ref mo, .int (nI 0)])).length) Slot.unset).toArray = ls at hl ⊢
  have hl : lv_has ls 2 [(0, .ref mo), (1, .int (nI 0))] := hl
  refine cw_start (A := A) hP (fun H locs hP hS => ?_)
  refine lv_aload_n hx hb dMd_count_0 rfl (lv_at hl 0 rfl) ?_
  refine lv_iconst (v := nI 0) hx hb dMd_count_1 (by decide) ?_
  refine va_put (D := D) (ci := 5) (v := .int (nI 0)) (ty := .int) (C := R_Md) (T := T_Md) (N := 21) hx hb hts in_Md t_Md tk_Md nm_Md hown hK hP hD hS 0 rfl rfl 0 (by decide) (hts _ gm_525) (fun _ h9 => h9) rfl (by decide +kernel) rfl rfl (Nat.le_of_ble_eq_true rfl) dMd_count_2 (fun H locs hP hD hS => ?_)
  have hP : va_P D vwCl [(mo, .inr (5, [.int (nI 0), .ref xt, .ref xk, .ref xr, .int (nI nt), .int (nI nk), .int (nI nr), .ref xu, .ref xv, .ref xb, .ref xw, .ref xo, .ref xl, .ref xp, .ref yr, .ref ys, .ref yw, .ref yt, .ref yl, .ref yc, .int (nI wd)]))] H := hP
  have hD : va_D A [(mo, .inr (5, [.int (nI 0), .ref xt, .ref xk, .ref xr, .int (nI nt), .int (nI nk), .int (nI nr), .ref xu, .ref xv, .ref xb, .ref xw, .ref xo, .ref xl, .ref xp, .ref yr, .ref ys, .ref yw, .ref yt, .ref yl, .ref yc, .int (nI wd)]))] := hD
  refine lv_iload_n hx hb dMd_count_5 rfl (lv_at hl 1 rfl) ?_
  refine lv_tableIn (tgt := 44) hx hb dMd_count_6 (by decide) (by decide) rfl (by decide) ?_
  refine lv_aload_n hx hb dMd_count_44 rfl (lv_at hl 0 rfl) ?_
  refine va_get (D := D) (ci := 5) (v := .int (nI nt)) (C := R_Md) (T := T_Md) (N := 21) hx hb hts in_Md hown hK hP 0 rfl rfl 4 (by decide) (hts _ gm_529) (fun _ h9 => h9) rfl dMd_count_45 ?_
  refine W.widen (k := 0) (n := 0) (Nat.le_refl _) (Nat.le_refl _) ?_
  exact W.iret (v := nI nt) hx hb hr (fun t ht hW => ⟨⟨nI nt, (), rfl, rfl, by rw [ht]; exact hP, hD⟩, hS.F ht⟩) hS.2.2 dMd_count_48
set_option maxHeartbeats 600000 in
set_option maxRecDepth 100000 in
theorem c_r_count1 (l : Launch) (D : va_G) (k : Nat → ClassId) (tb : Nat → Nat) (sz : Nat) (mo xt xk xr nt nk nr xu xv xb xw xo xl xp yr ys yw yt yl yc wd : Nat) (th : Int32) : Met l yMd_count wMd_count ({ frames := 0, cells := 0, slots := 0, locals := 0 }) (cP D k tb [(mo, .inr (5, [.int th, .ref xt, .ref xk, .ref xr, .int (nI nt), .int (nI nk), .int (nI nr), .ref xu, .ref xv, .ref xb, .ref xw, .ref xo, .ref xl, .ref xp, .ref yr, .ref ys, .ref yw, .ref yt, .ref yl, .ref yc, .int (nI wd)]))] sz [.ref mo, .int (nI 1)]) (va_Qi (fun (r : Int32) (u : Unit) => r = nI nk) (fun (u : Unit) (t : State) => va_P D vwCl [(mo, .inr (5, [.int (nI 0), .ref xt, .ref xk, .ref xr, .int (nI nt), .int (nI nk), .int (nI nr), .ref xu, .ref xv, .ref xb, .ref xw, .ref xo, .ref xl, .ref xp, .ref yr, .ref ys, .ref yw, .ref yt, .ref yl, .ref yc, .int (nI wd)]))] t.heap ∧ va_D (va_A [(mo, .inr (5, [.int th, .ref xt, .ref xk, .ref xr, .int (nI nt), .int (nI nk), .int (nI nr), .ref xu, .ref xv, .ref xb, .ref xw, .ref xo, .ref xl, .ref xp, .ref yr, .ref ys, .ref yw, .ref yt, .ref yl, .ref yc, .int (nI wd)]))] sz) [(mo, .inr (5, [.int (nI 0), .ref xt, .ref xk, .ref xr, .int (nI nt), .int (nI nk), .int (nI nr), .ref xu, .ref xv, .ref xb, .ref xw, .ref xo, .ref xl, .ref xp, .ref yr, .ref ys, .ref yw, .ref yt, .ref yl, .ref yc, .int (nI wd)]))]) (va_A [(mo, .inr (5, [.int th, .ref xt, .ref xk, .ref xr, .int (nI nt), .int (nI nk), .int (nI nr), .ref xu, .ref xv, .ref xb, .ref xw, .ref xo, .ref xl, .ref xp, .ref yr, .ref ys, .ref yw, .ref yt, .ref yl, .ref yc, .int (nI wd)]))] sz)) (0) (0) (va_A [(mo, .inr (5, [.int th, .ref xt, .ref xk, .ref xr, .int (nI nt), .int (nI nk), .int (nI nr), .ref xu, .ref xv, .ref xb, .ref xw, .ref xo, .ref xl, .ref xp, .ref yr, .ref ys, .ref yw, .ref yt, .ref yl, .ref yc, .int (nI wd)]))] sz) := by
  refine Met.ofW (cc := cMd_count) (maxL := 2) (ret := (some .int)) (by decide) rfl ?_
  intro p e s m args below meth c s₁ B hml hv
  obtain ⟨rfl, hsz, hP, hK, hD0, hG⟩ := hv
  have hx := B.exec
  have hb := B.bytes
  have hr := B.returns
  have hts : ∀ w ∈ GT, w.before _ s = true := fun w h => atoms_spec (ws := wMd_count) B.pre w (List.mem_cons_of_mem _ h)
  have hown : s.vm.findClass R_Md = some m.cls := findClass_of_methodNamed B.named
  have hlocks := B.notSynchronized
  subst hsz
  have hD := hD0.self (sz := s.heap.size)
  generalize hAe : va_A [(mo, .inr (5, [.int th, .ref xt, .ref xk, .ref xr, .int (nI nt), .int (nI nk), .int (nI nr), .ref xu, .ref xv, .ref xb, .ref xw, .ref xo, .ref xl, .ref xp, .ref yr, .ref ys, .ref yw, .ref yt, .ref yl, .ref yc, .int (nI wd)]))] s.heap.size = A at hD hG ⊢
  have hA : ∀ q : Nat, s.heap.size ≤ q → A q := fun q h => by rw [← hAe]; exact Or.inr h
  have hl := lv_entry ([.ref mo, .int (nI 1)]) (n := 2) (Nat.le_of_ble_eq_true rfl)
  rw [lg_entry_eq]
  generalize (lg_sl ([.ref mo, .int (nI 1)]) ++ List.replicate (2 - (lg_sl ([.ref mo, .int (nI 1)])).length) Slot.unset).toArray = ls at hl ⊢
  have hl : lv_has ls 2 [(0, .ref mo), (1, .int (nI 1))] := hl
  refine cw_start (A := A) hP (fun H locs hP hS => ?_)
  refine lv_aload_n hx hb dMd_count_0 rfl (lv_at hl 0 rfl) ?_
  refine lv_iconst (v := nI 0) hx hb dMd_count_1 (by decide) ?_
  refine va_put (D := D) (ci := 5) (v := .int (nI 0)) (ty := .int) (C := R_Md) (T := T_Md) (N := 21) hx hb hts in_Md t_Md tk_Md nm_Md hown hK hP hD hS 0 rfl rfl 0 (by decide) (hts _ gm_525) (fun _ h9 => h9) rfl (by decide +kernel) rfl rfl (Nat.le_of_ble_eq_true rfl) dMd_count_2 (fun H locs hP hD hS => ?_)
  have hP : va_P D vwCl [(mo, .inr (5, [.int (nI 0), .ref xt, .ref xk, .ref xr, .int (nI nt), .int (nI nk), .int (nI nr), .ref xu, .ref xv, .ref xb, .ref xw, .ref xo, .ref xl, .ref xp, .ref yr, .ref ys, .ref yw, .ref yt, .ref yl, .ref yc, .int (nI wd)]))] H := hP
  have hD : va_D A [(mo, .inr (5, [.int (nI 0), .ref xt, .ref xk, .ref xr, .int (nI nt), .int (nI nk), .int (nI nr), .ref xu, .ref xv, .ref xb, .ref xw, .ref xo, .ref xl, .ref xp, .ref yr, .ref ys, .ref yw, .ref yt, .ref yl, .ref yc, .int (nI wd)]))] := hD
  refine lv_iload_n hx hb dMd_count_5 rfl (lv_at hl 1 rfl) ?_
  refine lv_tableIn (tgt := 49) hx hb dMd_count_6 (by decide) (by decide) rfl (by decide) ?_
  refine lv_aload_n hx hb dMd_count_49 rfl (lv_at hl 0 rfl) ?_
  refine va_get (D := D) (ci := 5) (v := .int (nI nk)) (C := R_Md) (T := T_Md) (N := 21) hx hb hts in_Md hown hK hP 0 rfl rfl 5 (by decide) (hts _ gm_530) (fun _ h9 => h9) rfl dMd_count_50 ?_
  refine W.widen (k := 0) (n := 0) (Nat.le_refl _) (Nat.le_refl _) ?_
  exact W.iret (v := nI nk) hx hb hr (fun t ht hW => ⟨⟨nI nk, (), rfl, rfl, by rw [ht]; exact hP, hD⟩, hS.F ht⟩) hS.2.2 dMd_count_53
set_option maxHeartbeats 600000 in
set_option maxRecDepth 100000 in
theorem c_r_count2 (l : Launch) (D : va_G) (k : Nat → ClassId) (tb : Nat → Nat) (sz : Nat) (mo xt xk xr nt nk nr xu xv xb xw xo xl xp yr ys yw yt yl yc wd : Nat) (th : Int32) : Met l yMd_count wMd_count ({ frames := 0, cells := 0, slots := 0, locals := 0 }) (cP D k tb [(mo, .inr (5, [.int th, .ref xt, .ref xk, .ref xr, .int (nI nt), .int (nI nk), .int (nI nr), .ref xu, .ref xv, .ref xb, .ref xw, .ref xo, .ref xl, .ref xp, .ref yr, .ref ys, .ref yw, .ref yt, .ref yl, .ref yc, .int (nI wd)]))] sz [.ref mo, .int (nI 2)]) (va_Qi (fun (r : Int32) (u : Unit) => r = nI nr) (fun (u : Unit) (t : State) => va_P D vwCl [(mo, .inr (5, [.int (nI 0), .ref xt, .ref xk, .ref xr, .int (nI nt), .int (nI nk), .int (nI nr), .ref xu, .ref xv, .ref xb, .ref xw, .ref xo, .ref xl, .ref xp, .ref yr, .ref ys, .ref yw, .ref yt, .ref yl, .ref yc, .int (nI wd)]))] t.heap ∧ va_D (va_A [(mo, .inr (5, [.int th, .ref xt, .ref xk, .ref xr, .int (nI nt), .int (nI nk), .int (nI nr), .ref xu, .ref xv, .ref xb, .ref xw, .ref xo, .ref xl, .ref xp, .ref yr, .ref ys, .ref yw, .ref yt, .ref yl, .ref yc, .int (nI wd)]))] sz) [(mo, .inr (5, [.int (nI 0), .ref xt, .ref xk, .ref xr, .int (nI nt), .int (nI nk), .int (nI nr), .ref xu, .ref xv, .ref xb, .ref xw, .ref xo, .ref xl, .ref xp, .ref yr, .ref ys, .ref yw, .ref yt, .ref yl, .ref yc, .int (nI wd)]))]) (va_A [(mo, .inr (5, [.int th, .ref xt, .ref xk, .ref xr, .int (nI nt), .int (nI nk), .int (nI nr), .ref xu, .ref xv, .ref xb, .ref xw, .ref xo, .ref xl, .ref xp, .ref yr, .ref ys, .ref yw, .ref yt, .ref yl, .ref yc, .int (nI wd)]))] sz)) (0) (0) (va_A [(mo, .inr (5, [.int th, .ref xt, .ref xk, .ref xr, .int (nI nt), .int (nI nk), .int (nI nr), .ref xu, .ref xv, .ref xb, .ref xw, .ref xo, .ref xl, .ref xp, .ref yr, .ref ys, .ref yw, .ref yt, .ref yl, .ref yc, .int (nI wd)]))] sz) := by
  refine Met.ofW (cc := cMd_count) (maxL := 2) (ret := (some .int)) (by decide) rfl ?_
  intro p e s m args below meth c s₁ B hml hv
  obtain ⟨rfl, hsz, hP, hK, hD0, hG⟩ := hv
  have hx := B.exec
  have hb := B.bytes
  have hr := B.returns
  have hts : ∀ w ∈ GT, w.before _ s = true := fun w h => atoms_spec (ws := wMd_count) B.pre w (List.mem_cons_of_mem _ h)
  have hown : s.vm.findClass R_Md = some m.cls := findClass_of_methodNamed B.named
  have hlocks := B.notSynchronized
  subst hsz
  have hD := hD0.self (sz := s.heap.size)
  generalize hAe : va_A [(mo, .inr (5, [.int th, .ref xt, .ref xk, .ref xr, .int (nI nt), .int (nI nk), .int (nI nr), .ref xu, .ref xv, .ref xb, .ref xw, .ref xo, .ref xl, .ref xp, .ref yr, .ref ys, .ref yw, .ref yt, .ref yl, .ref yc, .int (nI wd)]))] s.heap.size = A at hD hG ⊢
  have hA : ∀ q : Nat, s.heap.size ≤ q → A q := fun q h => by rw [← hAe]; exact Or.inr h
  have hl := lv_entry ([.ref mo, .int (nI 2)]) (n := 2) (Nat.le_of_ble_eq_true rfl)
  rw [lg_entry_eq]
  generalize (lg_sl ([.ref mo, .int (nI 2)]) ++ List.replicate (2 - (lg_sl ([.ref mo, .int (nI 2)])).length) Slot.unset).toArray = ls at hl ⊢
  have hl : lv_has ls 2 [(0, .ref mo), (1, .int (nI 2))] := hl
  refine cw_start (A := A) hP (fun H locs hP hS => ?_)
  refine lv_aload_n hx hb dMd_count_0 rfl (lv_at hl 0 rfl) ?_
  refine lv_iconst (v := nI 0) hx hb dMd_count_1 (by decide) ?_
  refine va_put (D := D) (ci := 5) (v := .int (nI 0)) (ty := .int) (C := R_Md) (T := T_Md) (N := 21) hx hb hts in_Md t_Md tk_Md nm_Md hown hK hP hD hS 0 rfl rfl 0 (by decide) (hts _ gm_525) (fun _ h9 => h9) rfl (by decide +kernel) rfl rfl (Nat.le_of_ble_eq_true rfl) dMd_count_2 (fun H locs hP hD hS => ?_)
  have hP : va_P D vwCl [(mo, .inr (5, [.int (nI 0), .ref xt, .ref xk, .ref xr, .int (nI nt), .int (nI nk), .int (nI nr), .ref xu, .ref xv, .ref xb, .ref xw, .ref xo, .ref xl, .ref xp, .ref yr, .ref ys, .ref yw, .ref yt, .ref yl, .ref yc, .int (nI wd)]))] H := hP
  have hD : va_D A [(mo, .inr (5, [.int (nI 0), .ref xt, .ref xk, .ref xr, .int (nI nt), .int (nI nk), .int (nI nr), .ref xu, .ref xv, .ref xb, .ref xw, .ref xo, .ref xl, .ref xp, .ref yr, .ref ys, .ref yw, .ref yt, .ref yl, .ref yc, .int (nI wd)]))] := hD
  refine lv_iload_n hx hb dMd_count_5 rfl (lv_at hl 1 rfl) ?_
  refine lv_tableIn (tgt := 54) hx hb dMd_count_6 (by decide) (by decide) rfl (by decide) ?_
  refine lv_aload_n hx hb dMd_count_54 rfl (lv_at hl 0 rfl) ?_
  refine va_get (D := D) (ci := 5) (v := .int (nI nr)) (C := R_Md) (T := T_Md) (N := 21) hx hb hts in_Md hown hK hP 0 rfl rfl 6 (by decide) (hts _ gm_531) (fun _ h9 => h9) rfl dMd_count_55 ?_
  refine W.widen (k := 0) (n := 0) (Nat.le_refl _) (Nat.le_refl _) ?_
  exact W.iret (v := nI nr) hx hb hr (fun t ht hW => ⟨⟨nI nr, (), rfl, rfl, by rw [ht]; exact hP, hD⟩, hS.F ht⟩) hS.2.2 dMd_count_58
set_option maxHeartbeats 600000 in
set_option maxRecDepth 100000 in
theorem c_r_count3 (l : Launch) (D : va_G) (k : Nat → ClassId) (tb : Nat → Nat) (sz : Nat) (mo xt xk xr nt nk nr xu xv xb xw xo xl xp yr ys yw yt yl yc wd : Nat) (th : Int32) (fb : Nat → Int32) : Met l yMd_count wMd_count ({ frames := 0, cells := 0, slots := 0, locals := 0 }) (cP D k tb [(mo, .inr (5, [.int th, .ref xt, .ref xk, .ref xr, .int (nI nt), .int (nI nk), .int (nI nr), .ref xu, .ref xv, .ref xb, .ref xw, .ref xo, .ref xl, .ref xp, .ref yr, .ref ys, .ref yw, .ref yt, .ref yl, .ref yc, .int (nI wd)])), (xb, .inl (k 1, 3, .inl fb))] sz [.ref mo, .int (nI 3)]) (va_Qi (fun (r : Int32) (u : Unit) => r = fb 0) (fun (u : Unit) (t : State) => va_P D vwCl [(mo, .inr (5, [.int (nI 0), .ref xt, .ref xk, .ref xr, .int (nI nt), .int (nI nk), .int (nI nr), .ref xu, .ref xv, .ref xb, .ref xw, .ref xo, .ref xl, .ref xp, .ref yr, .ref ys, .ref yw, .ref yt, .ref yl, .ref yc, .int (nI wd)])), (xb, .inl (k 1, 3, .inl fb))] t.heap ∧ va_D (va_A [(mo, .inr (5, [.int th, .ref xt, .ref xk, .ref xr, .int (nI nt), .int (nI nk), .int (nI nr), .ref xu, .ref xv, .ref xb, .ref xw, .ref xo, .ref xl, .ref xp, .ref yr, .ref ys, .ref yw, .ref yt, .ref yl, .ref yc, .int (nI wd)])), (xb, .inl (k 1, 3, .inl fb))] sz) [(mo, .inr (5, [.int (nI 0), .ref xt, .ref xk, .ref xr, .int (nI nt), .int (nI nk), .int (nI nr), .ref xu, .ref xv, .ref xb, .ref xw, .ref xo, .ref xl, .ref xp, .ref yr, .ref ys, .ref yw, .ref yt, .ref yl, .ref yc, .int (nI wd)])), (xb, .inl (k 1, 3, .inl fb))]) (va_A [(mo, .inr (5, [.int th, .ref xt, .ref xk, .ref xr, .int (nI nt), .int (nI nk), .int (nI nr), .ref xu, .ref xv, .ref xb, .ref xw, .ref xo, .ref xl, .ref xp, .ref yr, .ref ys, .ref yw, .ref yt, .ref yl, .ref yc, .int (nI wd)])), (xb, .inl (k 1, 3, .inl fb))] sz)) (0) (0) (va_A [(mo, .inr (5, [.int th, .ref xt, .ref xk, .ref xr, .int (nI nt), .int (nI nk), .int (nI nr), .ref xu, .ref xv, .ref xb, .ref xw, .ref xo, .ref xl, .ref xp, .ref yr, .ref ys, .ref yw, .ref yt, .ref yl, .ref yc, .int (nI wd)])), (xb, .inl (k 1, 3, .inl fb))] sz) := by
  refine Met.ofW (cc := cMd_count) (maxL := 2) (ret := (some .int)) (by decide) rfl ?_
  intro p e s m args below meth c s₁ B hml hv
  obtain ⟨rfl, hsz, hP, hK, hD0, hG⟩ := hv
  have hx := B.exec
  have hb := B.bytes
  have hr := B.returns
  have hts : ∀ w ∈ GT, w.before _ s = true := fun w h => atoms_spec (ws := wMd_count) B.pre w (List.mem_cons_of_mem _ h)
  have hown : s.vm.findClass R_Md = some m.cls := findClass_of_methodNamed B.named
  have hlocks := B.notSynchronized
  subst hsz
  have hD := hD0.self (sz := s.heap.size)
  generalize hAe : va_A [(mo, .inr (5, [.int th, .ref xt, .ref xk, .ref xr, .int (nI nt), .int (nI nk), .int (nI nr), .ref xu, .ref xv, .ref xb, .ref xw, .ref xo, .ref xl, .ref xp, .ref yr, .ref ys, .ref yw, .ref yt, .ref yl, .ref yc, .int (nI wd)])), (xb, .inl (k 1, 3, .inl fb))] s.heap.size = A at hD hG ⊢
  have hA : ∀ q : Nat, s.heap.size ≤ q → A q := fun q h => by rw [← hAe]; exact Or.inr h
  have hl := lv_entry ([.ref mo, .int (nI 3)]) (n := 2) (Nat.le_of_ble_eq_true rfl)
  rw [lg_entry_eq]
  generalize (lg_sl ([.ref mo, .int (nI 3)]) ++ List.replicate (2 - (lg_sl ([.ref mo, .int (nI 3)])).length) Slot.unset).toArray = ls at hl ⊢
  have hl : lv_has ls 2 [(0, .ref mo), (1, .int (nI 3))] := hl
  refine cw_start (A := A) hP (fun H locs hP hS => ?_)
  refine lv_aload_n hx hb dMd_count_0 rfl (lv_at hl 0 rfl) ?_
  refine lv_iconst (v := nI 0) hx hb dMd_count_1 (by decide) ?_
  refine va_put (D := D) (ci := 5) (v := .int (nI 0)) (ty := .int) (C := R_Md) (T := T_Md) (N := 21) hx hb hts in_Md t_Md tk_Md nm_Md hown hK hP hD hS 0 rfl rfl 0 (by decide) (hts _ gm_525) (fun _ h9 => h9) rfl (by decide +kernel) rfl rfl (Nat.le_of_ble_eq_true rfl) dMd_count_2 (fun H locs hP hD hS => ?_)
  have hP : va_P D vwCl [(mo, .inr (5, [.int (nI 0), .ref xt, .ref xk, .ref xr, .int (nI nt), .int (nI nk), .int (nI nr), .ref xu, .ref xv, .ref xb, .ref xw, .ref xo, .ref xl, .ref xp, .ref yr, .ref ys, .ref yw, .ref yt, .ref yl, .ref yc, .int (nI wd)])), (xb, .inl (k 1, 3, .inl fb))] H := hP
  have hD : va_D A [(mo, .inr (5, [.int (nI 0), .ref xt, .ref xk, .ref xr, .int (nI nt), .int (nI nk), .int (nI nr), .ref xu, .ref xv, .ref xb, .ref xw, .ref xo, .ref xl, .ref xp, .ref yr, .ref ys, .ref yw, .ref yt, .ref yl, .ref yc, .int (nI wd)])), (xb, .inl (k 1, 3, .inl fb))] := hD
  refine lv_iload_n hx hb dMd_count_5 rfl (lv_at hl 1 rfl) ?_
  refine lv_tableIn (tgt := 59) hx hb dMd_count_6 (by decide) (by decide) rfl (by decide) ?_
  refine lv_aload_n hx hb dMd_count_59 rfl (lv_at hl 0 rfl) ?_
  refine va_get (D := D) (ci := 5) (v := .ref xb) (C := R_Md) (T := T_Md) (N := 21) hx hb hts in_Md hown hK hP 0 rfl rfl 9 (by decide) (hts _ gm_534) (fun _ h9 => h9) rfl dMd_count_60 ?_
  refine lv_iload_n hx hb dMd_count_63 rfl (lv_at hl 1 rfl) ?_
  refine lv_iconst (v := nI 3) hx hb dMd_count_64 (by decide) ?_
  refine ri_sub hx hb (by omega) dMd_count_65 ?_
  refine rn_ld hx hb hK hP 1 1 rfl rfl (by omega) (by omega) dMd_count_66 ?_
  refine W.widen (k := 0) (n := 0) (Nat.le_refl _) (Nat.le_refl _) ?_
  exact W.iret (v := fb (3 - 3)) hx hb hr (fun t ht hW => ⟨⟨fb (3 - 3), (), rfl, rfl, by rw [ht]; exact hP, hD⟩, hS.F ht⟩) hS.2.2 dMd_count_67
set_option maxHeartbeats 600000 in
set_option maxRecDepth 100000 in
theorem c_r_count4 (l : Launch) (D : va_G) (k : Nat → ClassId) (tb : Nat → Nat) (sz : Nat) (mo xt xk xr nt nk nr xu xv xb xw xo xl xp yr ys yw yt yl yc wd : Nat) (th : Int32) (fb : Nat → Int32) : Met l yMd_count wMd_count ({ frames := 0, cells := 0, slots := 0, locals := 0 }) (cP D k tb [(mo, .inr (5, [.int th, .ref xt, .ref xk, .ref xr, .int (nI nt), .int (nI nk), .int (nI nr), .ref xu, .ref xv, .ref xb, .ref xw, .ref xo, .ref xl, .ref xp, .ref yr, .ref ys, .ref yw, .ref yt, .ref yl, .ref yc, .int (nI wd)])), (xb, .inl (k 1, 3, .inl fb))] sz [.ref mo, .int (nI 4)]) (va_Qi (fun (r : Int32) (u : Unit) => r = fb 1) (fun (u : Unit) (t : State) => va_P D vwCl [(mo, .inr (5, [.int (nI 0), .ref xt, .ref xk, .ref xr, .int (nI nt), .int (nI nk), .int (nI nr), .ref xu, .ref xv, .ref xb, .ref xw, .ref xo, .ref xl, .ref xp, .ref yr, .ref ys, .ref yw, .ref yt, .ref yl, .ref yc, .int (nI wd)])), (xb, .inl (k 1, 3, .inl fb))] t.heap ∧ va_D (va_A [(mo, .inr (5, [.int th, .ref xt, .ref xk, .ref xr, .int (nI nt), .int (nI nk), .int (nI nr), .ref xu, .ref xv, .ref xb, .ref xw, .ref xo, .ref xl, .ref xp, .ref yr, .ref ys, .ref yw, .ref yt, .ref yl, .ref yc, .int (nI wd)])), (xb, .inl (k 1, 3, .inl fb))] sz) [(mo, .inr (5, [.int (nI 0), .ref xt, .ref xk, .ref xr, .int (nI nt), .int (nI nk), .int (nI nr), .ref xu, .ref xv, .ref xb, .ref xw, .ref xo, .ref xl, .ref xp, .ref yr, .ref ys, .ref yw, .ref yt, .ref yl, .ref yc, .int (nI wd)])), (xb, .inl (k 1, 3, .inl fb))]) (va_A [(mo, .inr (5, [.int th, .ref xt, .ref xk, .ref xr, .int (nI nt), .int (nI nk), .int (nI nr), .ref xu, .ref xv, .ref xb, .ref xw, .ref xo, .ref xl, .ref xp, .ref yr, .ref ys, .ref yw, .ref yt, .ref yl, .ref yc, .int (nI wd)])), (xb, .inl (k 1, 3, .inl fb))] sz)) (0) (0) (va_A [(mo, .inr (5, [.int th, .ref xt, .ref xk, .ref xr, .int (nI nt), .int (nI nk), .int (nI nr), .ref xu, .ref xv, .ref xb, .ref xw, .ref xo, .ref xl, .ref xp, .ref yr, .ref ys, .ref yw, .ref yt, .ref yl, .ref yc, .int (nI wd)])), (xb, .inl (k 1, 3, .inl fb))] sz) := by
  refine Met.ofW (cc := cMd_count) (maxL := 2) (ret := (some .int)) (by decide) rfl ?_
  intro p e s m args below meth c s₁ B hml hv
  obtain ⟨rfl, hsz, hP, hK, hD0, hG⟩ := hv
  have hx := B.exec
  have hb := B.bytes
  have hr := B.returns
  have hts : ∀ w ∈ GT, w.before _ s = true := fun w h => atoms_spec (ws := wMd_count) B.pre w (List.mem_cons_of_mem _ h)
  have hown : s.vm.findClass R_Md = some m.cls := findClass_of_methodNamed B.named
  have hlocks := B.notSynchronized
  subst hsz
  have hD := hD0.self (sz := s.heap.size)
  generalize hAe : va_A [(mo, .inr (5, [.int th, .ref xt, .ref xk, .ref xr, .int (nI nt), .int (nI nk), .int (nI nr), .ref xu, .ref xv, .ref xb, .ref xw, .ref xo, .ref xl, .ref xp, .ref yr, .ref ys, .ref yw, .ref yt, .ref yl, .ref yc, .int (nI wd)])), (xb, .inl (k 1, 3, .inl fb))] s.heap.size = A at hD hG ⊢
  have hA : ∀ q : Nat, s.heap.size ≤ q → A q := fun q h => by rw [← hAe]; exact Or.inr h
  have hl := lv_entry ([.ref mo, .int (nI 4)]) (n := 2) (Nat.le_of_ble_eq_true rfl)
  rw [lg_entry_eq]
  generalize (lg_sl ([.ref mo, .int (nI 4)]) ++ List.replicate (2 - (lg_sl ([.ref mo, .int (nI 4)])).length) Slot.unset).toArray = ls at hl ⊢
  have hl : lv_has ls 2 [(0, .ref mo), (1, .int (nI 4))] := hl
  refine cw_start (A := A) hP (fun H locs hP hS => ?_)
  refine lv_aload_n hx hb dMd_count_0 rfl (lv_at hl 0 rfl) ?_
  refine lv_iconst (v := nI 0) hx hb dMd_count_1 (by decide) ?_
  refine va_put (D := D) (ci := 5) (v := .int (nI 0)) (ty := .int) (C := R_Md) (T := T_Md) (N := 21) hx hb hts in_Md t_Md tk_Md nm_Md hown hK hP hD hS 0 rfl rfl 0 (by decide) (hts _ gm_525) (fun _ h9 => h9) rfl (by decide +kernel) rfl rfl (Nat.le_of_ble_eq_true rfl) dMd_count_2 (fun H locs hP hD hS => ?_)
  have hP : va_P D vwCl [(mo, .inr (5, [.int (nI 0), .ref xt, .ref xk, .ref xr, .int (nI nt), .int (nI nk), .int (nI nr), .ref xu, .ref xv, .ref xb, .ref xw, .ref xo, .ref xl, .ref xp, .ref yr, .ref ys, .ref yw, .ref yt, .ref yl, .ref yc, .int (nI wd)])), (xb, .inl (k 1, 3, .inl fb))] H := hP
  have hD : va_D A [(mo, .inr (5, [.int (nI 0), .ref xt, .ref xk, .ref xr, .int (nI nt), .int (nI nk), .int (nI nr), .ref xu, .ref xv, .ref xb, .ref xw, .ref xo, .ref xl, .ref xp, .ref yr, .ref ys, .ref yw, .ref yt, .ref yl, .ref yc, .int (nI wd)])), (xb, .inl (k 1, 3, .inl fb))] := hD
  refine lv_iload_n hx hb dMd_count_5 rfl (lv_at hl 1 rfl) ?_
  refine lv_tableIn (tgt := 59) hx hb dMd_count_6 (by decide) (by decide) rfl (by decide) ?_
  refine lv_aload_n hx hb dMd_count_59 rfl (lv_at hl 0 rfl) ?_
  refine va_get (D := D) (ci := 5) (v := .ref xb) (C := R_Md) (T := T_Md) (N := 21) hx hb hts in_Md hown hK hP 0 rfl rfl 9 (by decide) (hts _ gm_534) (fun _ h9 => h9) rfl dMd_count_60 ?_
  refine lv_iload_n hx hb dMd_count_63 rfl (lv_at hl 1 rfl) ?_
  refine lv_iconst (v := nI 3) hx hb dMd_count_64 (by decide) ?_
  refine ri_sub hx hb (by omega) dMd_count_65 ?_
  refine rn_ld hx hb hK hP 1 1 rfl rfl (by omega) (by omega) dMd_count_66 ?_
  refine W.widen (k := 0) (n := 0) (Nat.le_refl _) (Nat.le_refl _) ?_
  exact W.iret (v := fb (4 - 3)) hx hb hr (fun t ht hW => ⟨⟨fb (4 - 3), (), rfl, rfl, by rw [ht]; exact hP, hD⟩, hS.F ht⟩) hS.2.2 dMd_count_67
set_option maxHeartbeats 600000 in
set_option maxRecDepth 100000 in
theorem c_r_count5 (l : Launch) (D : va_G) (k : Nat → ClassId) (tb : Nat → Nat) (sz : Nat) (mo xt xk xr nt nk nr xu xv xb xw xo xl xp yr ys yw yt yl yc wd : Nat) (th : Int32) (fb : Nat → Int32) : Met l yMd_count wMd_count ({ frames := 0, cells := 0, slots := 0, locals := 0 }) (cP D k tb [(mo, .inr (5, [.int th, .ref xt, .ref xk, .ref xr, .int (nI nt), .int (nI nk), .int (nI nr), .ref xu, .ref xv, .ref xb, .ref xw, .ref xo, .ref xl, .ref xp, .ref yr, .ref ys, .ref yw, .ref yt, .ref yl, .ref yc, .int (nI wd)])), (xb, .inl (k 1, 3, .inl fb))] sz [.ref mo, .int (nI 5)]) (va_Qi (fun (r : Int32) (u : Unit) => r = fb 2) (fun (u : Unit) (t : State) => va_P D vwCl [(mo, .inr (5, [.int (nI 0), .ref xt, .ref xk, .ref xr, .int (nI nt), .int (nI nk), .int (nI nr), .ref xu, .ref xv, .ref xb, .ref xw, .ref xo, .ref xl, .ref xp, .ref yr, .ref ys, .ref yw, .ref yt, .ref yl, .ref yc, .int (nI wd)])), (xb, .inl (k 1, 3, .inl fb))] t.heap ∧ va_D (va_A [(mo, .inr (5, [.int th, .ref xt, .ref xk, .ref xr, .int (nI nt), .int (nI nk), .int (nI nr), .ref xu, .ref xv, .ref xb, .ref xw, .ref xo, .ref xl, .ref xp, .ref yr, .ref ys, .ref yw, .ref yt, .ref yl, .ref yc, .int (nI wd)])), (xb, .inl (k 1, 3, .inl fb))] sz) [(mo, .inr (5, [.int (nI 0), .ref xt, .ref xk, .ref xr, .int (nI nt), .int (nI nk), .int (nI nr), .ref xu, .ref xv, .ref xb, .ref xw, .ref xo, .ref xl, .ref xp, .ref yr, .ref ys, .ref yw, .ref yt, .ref yl, .ref yc, .int (nI wd)])), (xb, .inl (k 1, 3, .inl fb))]) (va_A [(mo, .inr (5, [.int th, .ref xt, .ref xk, .ref xr, .int (nI nt), .int (nI nk), .int (nI nr), .ref xu, .ref xv, .ref xb, .ref xw, .ref xo, .ref xl, .ref xp, .ref yr, .ref ys, .ref yw, .ref yt, .ref yl, .ref yc, .int (nI wd)])), (xb, .inl (k 1, 3, .inl fb))] sz)) (0) (0) (va_A [(mo, .inr (5, [.int th, .ref xt, .ref xk, .ref xr, .int (nI nt), .int (nI nk), .int (nI nr), .ref xu, .ref xv, .ref xb, .ref xw, .ref xo, .ref xl, .ref xp, .ref yr, .ref ys, .ref yw, .ref yt, .ref yl, .ref yc, .int (nI wd)])), (xb, .inl (k 1, 3, .inl fb))] sz) := by
  refine Met.ofW (cc := cMd_count) (maxL := 2) (ret := (some .int)) (by decide) rfl ?_
  intro p e s m args below meth c s₁ B hml hv
  obtain ⟨rfl, hsz, hP, hK, hD0, hG⟩ := hv
  have hx := B.exec
  have hb := B.bytes
  have hr := B.returns
  have hts : ∀ w ∈ GT, w.before _ s = true := fun w h => atoms_spec (ws := wMd_count) B.pre w (List.mem_cons_of_mem _ h)
  have hown : s.vm.findClass R_Md = some m.cls := findClass_of_methodNamed B.named
  have hlocks := B.notSynchronized
  subst hsz
  have hD := hD0.self (sz := s.heap.size)
  generalize hAe : va_A [(mo, .inr (5, [.int th, .ref xt, .ref xk, .ref xr, .int (nI nt), .int (nI nk), .int (nI nr), .ref xu, .ref xv, .ref xb, .ref xw, .ref xo, .ref xl, .ref xp, .ref yr, .ref ys, .ref yw, .ref yt, .ref yl, .ref yc, .int (nI wd)])), (xb, .inl (k 1, 3, .inl fb))] s.heap.size = A at hD hG ⊢
  have hA : ∀ q : Nat, s.heap.size ≤ q → A q := fun q h => by rw [← hAe]; exact Or.inr h
  have hl := lv_entry ([.ref mo, .int (nI 5)]) (n := 2) (Nat.le_of_ble_eq_true rfl)
  rw [lg_entry_eq]
  generalize (lg_sl ([.ref mo, .int (nI 5)]) ++ List.replicate (2 - (lg_sl ([.ref mo, .int (nI 5)])).length) Slot.unset).toArray = ls at hl ⊢
  have hl : lv_has ls 2 [(0, .ref mo), (1, .int (nI 5))] := hl
  refine cw_start (A := A) hP (fun H locs hP hS => ?_)
  refine lv_aload_n hx hb dMd_count_0 rfl (lv_at hl 0 rfl) ?_
  refine lv_iconst (v := nI 0) hx hb dMd_count_1 (by decide) ?_
  refine va_put (D := D) (ci := 5) (v := .int (nI 0)) (ty := .int) (C := R_Md) (T := T_Md) (N := 21) hx hb hts in_Md t_Md tk_Md nm_Md hown hK hP hD hS 0 rfl rfl 0 (by decide) (hts _ gm_525) (fun _ h9 => h9) rfl (by decide +kernel) rfl rfl (Nat.le_of_ble_eq_true rfl) dMd_count_2 (fun H locs hP hD hS => ?_)
  have hP : va_P D vwCl [(mo, .inr (5, [.int (nI 0), .ref xt, .ref xk, .ref xr, .int (nI nt), .int (nI nk), .int (nI nr), .ref xu, .ref xv, .ref xb, .ref xw, .ref xo, .ref xl, .ref xp, .ref yr, .ref ys, .ref yw, .ref yt, .ref yl, .ref yc, .int (nI wd)])), (xb, .inl (k 1, 3, .inl fb))] H := hP
  have hD : va_D A [(mo, .inr (5, [.int (nI 0), .ref xt, .ref xk, .ref xr, .int (nI nt), .int (nI nk), .int (nI nr), .ref xu, .ref xv, .ref xb, .ref xw, .ref xo, .ref xl, .ref xp, .ref yr, .ref ys, .ref yw, .ref yt, .ref yl, .ref yc, .int (nI wd)])), (xb, .inl (k 1, 3, .inl fb))] := hD
  refine lv_iload_n hx hb dMd_count_5 rfl (lv_at hl 1 rfl) ?_
  refine lv_tableIn (tgt := 59) hx hb dMd_count_6 (by decide) (by decide) rfl (by decide) ?_
  refine lv_aload_n hx hb dMd_count_59 rfl (lv_at hl 0 rfl) ?_
  refine va_get (D := D) (ci := 5) (v := .ref xb) (C := R_Md) (T := T_Md) (N := 21) hx hb hts in_Md hown hK hP 0 rfl rfl 9 (by decide) (hts _ gm_534) (fun _ h9 => h9) rfl dMd_count_60 ?_
  refine lv_iload_n hx hb dMd_count_63 rfl (lv_at hl 1 rfl) ?_
  refine lv_iconst (v := nI 3) hx hb dMd_count_64 (by decide) ?_
  refine ri_sub hx hb (by omega) dMd_count_65 ?_
  refine rn_ld hx hb hK hP 1 1 rfl rfl (by omega) (by omega) dMd_count_66 ?_
  refine W.widen (k := 0) (n := 0) (Nat.le_refl _) (Nat.le_refl _) ?_
  exact W.iret (v := fb (5 - 3)) hx hb hr (fun t ht hW => ⟨⟨fb (5 - 3), (), rfl, rfl, by rw [ht]; exact hP, hD⟩, hS.F ht⟩) hS.2.2 dMd_count_67
set_option maxHeartbeats 600000 in
set_option maxRecDepth 100000 in
theorem c_r_countD (l : Launch) (D : va_G) (k : Nat → ClassId) (tb : Nat → Nat) (sz : Nat) (mo xt xk xr nt nk nr xu xv xb xw xo xl xp yr ys yw yt yl yc wd : Nat) (th : Int32) (x : Int32) (hq : x.toInt < 0 ∨ 5 < x.toInt) : Met l yMd_count wMd_count ({ frames := 0, cells := 0, slots := 0, locals := 0 }) (cP D k tb [(mo, .inr (5, [.int th, .ref xt, .ref xk, .ref xr, .int (nI nt), .int (nI nk), .int (nI nr), .ref xu, .ref xv, .ref xb, .ref xw, .ref xo, .ref xl, .ref xp, .ref yr, .ref ys, .ref yw, .ref yt, .ref yl, .ref yc, .int (nI wd)]))] sz [.ref mo, .int x]) (va_Qi (fun (r : Int32) (u : Unit) => r = -1) (fun (u : Unit) (t : State) => va_P D vwCl [(mo, .inr (5, [.int (nI 0), .ref xt, .ref xk, .ref xr, .int (nI nt), .int (nI nk), .int (nI nr), .ref xu, .ref xv, .ref xb, .ref xw, .ref xo, .ref xl, .ref xp, .ref yr, .ref ys, .ref yw, .ref yt, .ref yl, .ref yc, .int (nI wd)]))] t.heap ∧ va_D (va_A [(mo, .inr (5, [.int th, .ref xt, .ref xk, .ref xr, .int (nI nt), .int (nI nk), .int (nI nr), .ref xu, .ref xv, .ref xb, .ref xw, .ref xo, .ref xl, .ref xp, .ref yr, .ref ys, .ref yw, .ref yt, .ref yl, .ref yc, .int (nI wd)]))] sz) [(mo, .inr (5, [.int (nI 0), .ref xt, .ref xk, .ref xr, .int (nI nt), .int (nI nk), .int (nI nr), .ref xu, .ref xv, .ref xb, .ref xw, .ref xo, .ref xl, .ref xp, .ref yr, .ref ys, .ref yw, .ref yt, .ref yl, .ref yc, .int (nI wd)]))]) (va_A [(mo, .inr (5, [.int th, .ref xt, .ref xk, .ref xr, .int (nI nt), .int (nI nk), .int (nI nr), .ref xu, .ref xv, .ref xb, .ref xw, .ref xo, .ref xl, .ref xp, .ref yr, .ref ys, .ref yw, .ref yt, .ref yl, .ref yc, .int (nI wd)]))] sz)) (0) (0) (va_A [(mo, .inr (5, [.int th, .ref xt, .ref xk, .ref xr, .int (nI nt), .int (nI nk), .int (nI nr), .ref xu, .ref xv, .ref xb, .ref xw, .ref xo, .ref xl, .ref xp, .ref yr, .ref ys, .ref yw, .ref yt, .ref yl, .ref yc, .int (nI wd)]))] sz) := by
  refine Met.ofW (cc := cMd_count) (maxL := 2) (ret := (some .int)) (by decide) rfl ?_
  intro p e s m args below meth c s₁ B hml hv
  obtain ⟨rfl, hsz, hP, hK, hD0, hG⟩ := hv
  have hx := B.exec
  have hb := B.bytes
  have hr := B.returns
  have hts : ∀ w ∈ GT, w.before _ s = true := fun w h => atoms_spec (ws := wMd_count) B.pre w (List.mem_cons_of_mem _ h)
  have hown : s.vm.findClass R_Md = some m.cls := findClass_of_methodNamed B.named
  have hlocks := B.notSynchronized
  subst hsz
  have hD := hD0.self (sz := s.heap.size)
  generalize hAe : va_A [(mo, .inr (5, [.int th, .ref xt, .ref xk, .ref xr, .int (nI nt), .int (nI nk), .int (nI nr), .ref xu, .ref xv, .ref xb, .ref xw, .ref xo, .ref xl, .ref xp, .ref yr, .ref ys, .ref yw, .ref yt, .ref yl, .ref yc, .int (nI wd)]))] s.heap.size = A at hD hG ⊢
  have hA : ∀ q : Nat, s.heap.size ≤ q → A q := fun q h => by rw [← hAe]; exact Or.inr h
  have hl := lv_entry ([.ref mo, .int x]) (n := 2) (Nat.le_of_ble_eq_true rfl)
  rw [lg_entry_eq]
  generalize (lg_sl ([.ref mo, .int x]) ++ List.replicate (2 - (lg_sl ([.ref mo, .int x])).length) Slot.unset).toArray = ls at hl ⊢
  have hl : lv_has ls 2 [(0, .ref mo), (1, .int x)] := hl
  refine cw_start (A := A) hP (fun H locs hP hS => ?_)
  refine lv_aload_n hx hb dMd_count_0 rfl (lv_at hl 0 rfl) ?_
  refine lv_iconst (v := nI 0) hx hb dMd_count_1 (by decide) ?_
  refine va_put (D := D) (ci := 5) (v := .int (nI 0)) (ty := .int) (C := R_Md) (T := T_Md) (N := 21) hx hb hts in_Md t_Md tk_Md nm_Md hown hK hP hD hS 0 rfl rfl 0 (by decide) (hts _ gm_525) (fun _ h9 => h9) rfl (by decide +kernel) rfl rfl (Nat.le_of_ble_eq_true rfl) dMd_count_2 (fun H locs hP hD hS => ?_)
  have hP : va_P D vwCl [(mo, .inr (5, [.int (nI 0), .ref xt, .ref xk, .ref xr, .int (nI nt), .int (nI nk), .int (nI nr), .ref xu, .ref xv, .ref xb, .ref xw, .ref xo, .ref xl, .ref xp, .ref yr, .ref ys, .ref yw, .ref yt, .ref yl, .ref yc, .int (nI wd)]))] H := hP
  have hD : va_D A [(mo, .inr (5, [.int (nI 0), .ref xt, .ref xk, .ref xr, .int (nI nt), .int (nI nk), .int (nI nr), .ref xu, .ref xv, .ref xb, .ref xw, .ref xo, .ref xl, .ref xp, .ref yr, .ref ys, .ref yw, .ref yt, .ref yl, .ref yc, .int (nI wd)]))] := hD
  refine lv_iload_n hx hb dMd_count_5 rfl (lv_at hl 1 rfl) ?_
  refine lv_tableOut (tgt := 68) hx hb dMd_count_6 hq (by decide) ?_
  refine lv_iconst (v := (-1)) hx hb dMd_count_68 (by decide) ?_
  refine W.widen (k := 0) (n := 0) (Nat.le_refl _) (Nat.le_refl _) ?_
  exact W.iret (v := (-1)) hx hb hr (fun t ht hW => ⟨⟨(-1), (), rfl, rfl, by rw [ht]; exact hP, hD⟩, hS.F ht⟩) hS.2.2 dMd_count_69
set_option maxHeartbeats 600000 in
set_option maxRecDepth 100000 in
theorem c_r_restart (l : Launch) (D : va_G) (k : Nat → ClassId) (tb : Nat → Nat) (sz : Nat) (mo xt xk xr nt nk nr xu xv xb xw xo xl xp yr ys yw yt yl yc wd : Nat) (th : Int32) (kd : Nat) (hkd : kd < 3) (fv : Nat → Int32) : Met l yMd_restart wMd_restart ({ frames := 1, cells := 0, slots := 0, locals := 20 }) (cP D k tb [(mo, .inr (5, [.int th, .ref xt, .ref xk, .ref xr, .int (nI nt), .int (nI nk), .int (nI nr), .ref xu, .ref xv, .ref xb, .ref xw, .ref xo, .ref xl, .ref xp, .ref yr, .ref ys, .ref yw, .ref yt, .ref yl, .ref yc, .int (nI wd)])), (xv, .inl (k 1, 3, .inl fv))] sz [.ref mo, .int (nI kd)]) (va_Qv (fun (u : Unit) => True) (fun (u : Unit) (t : State) => va_P D vwCl [(mo, .inr (5, [.int (nI 0), .ref xt, .ref xk, .ref xr, .int (nI nt), .int (nI nk), .int (nI nr), .ref xu, .ref xv, .ref xb, .ref xw, .ref xo, .ref xl, .ref xp, .ref yr, .ref ys, .ref yw, .ref yt, .ref yl, .ref yc, .int (nI wd)])), (xv, .inl (k 1, 3, .inl (upd fv kd (nI 0))))] t.heap ∧ va_D (va_A [(mo, .inr (5, [.int th, .ref xt, .ref xk, .ref xr, .int (nI nt), .int (nI nk), .int (nI nr), .ref xu, .ref xv, .ref xb, .ref xw, .ref xo, .ref xl, .ref xp, .ref yr, .ref ys, .ref yw, .ref yt, .ref yl, .ref yc, .int (nI wd)])), (xv, .inl (k 1, 3, .inl fv))] sz) [(mo, .inr (5, [.int (nI 0), .ref xt, .ref xk, .ref xr, .int (nI nt), .int (nI nk), .int (nI nr), .ref xu, .ref xv, .ref xb, .ref xw, .ref xo, .ref xl, .ref xp, .ref yr, .ref ys, .ref yw, .ref yt, .ref yl, .ref yc, .int (nI wd)])), (xv, .inl (k 1, 3, .inl (upd fv kd (nI 0))))]) (va_A [(mo, .inr (5, [.int th, .ref xt, .ref xk, .ref xr, .int (nI nt), .int (nI nk), .int (nI nr), .ref xu, .ref xv, .ref xb, .ref xw, .ref xo, .ref xl, .ref xp, .ref yr, .ref ys, .ref yw, .ref yt, .ref yl, .ref yc, .int (nI wd)])), (xv, .inl (k 1, 3, .inl fv))] sz)) (0) (0) (va_A [(mo, .inr (5, [.int th, .ref xt, .ref xk, .ref xr, .int (nI nt), .int (nI nk), .int (nI nr), .ref xu, .ref xv, .ref xb, .ref xw, .ref xo, .ref xl, .ref xp, .ref yr, .ref ys, .ref yw, .ref yt, .ref yl, .ref yc, .int (nI wd)])), (xv, .inl (k 1, 3, .inl fv))] sz) := by
  refine Met.ofW (cc := cMd_restart) (maxL := 2) (ret := none) (by decide) rfl ?_
  intro p e s m args below meth c s₁ B hml hv
  obtain ⟨rfl, hsz, hP, hK, hD0, hG⟩ := hv
  have hx := B.exec
  have hb := B.bytes
  have hr := B.returns
  have hts : ∀ w ∈ GT, w.before _ s = true := fun w h => atoms_spec (ws := wMd_restart) B.pre w (List.mem_cons_of_mem _ h)
  have hown : s.vm.findClass R_Md = some m.cls := findClass_of_methodNamed B.named
  have hlocks := B.notSynchronized
  subst hsz
  have hD := hD0.self (sz := s.heap.size)
  generalize hAe : va_A [(mo, .inr (5, [.int th, .ref xt, .ref xk, .ref xr, .int (nI nt), .int (nI nk), .int (nI nr), .ref xu, .ref xv, .ref xb, .ref xw, .ref xo, .ref xl, .ref xp, .ref yr, .ref ys, .ref yw, .ref yt, .ref yl, .ref yc, .int (nI wd)])), (xv, .inl (k 1, 3, .inl fv))] s.heap.size = A at hD hG ⊢
  have hA : ∀ q : Nat, s.heap.size ≤ q → A q := fun q h => by rw [← hAe]; exact Or.inr h
  have hl := lv_entry ([.ref mo, .int (nI kd)]) (n := 2) (Nat.le_of_ble_eq_true rfl)
  rw [lg_entry_eq]
  generalize (lg_sl ([.ref mo, .int (nI kd)]) ++ List.replicate (2 - (lg_sl ([.ref mo, .int (nI kd)])).length) Slot.unset).toArray = ls at hl ⊢
  have hl : lv_has ls 2 [(0, .ref mo), (1, .int (nI kd))] := hl
  refine cw_start (A := A) hP (fun H locs hP hS => ?_)
  refine lv_aload_n hx hb dMd_restart_0 rfl (lv_at hl 0 rfl) ?_
  refine lv_iload_n hx hb dMd_restart_1 rfl (lv_at hl 1 rfl) ?_
  refine rc_i (wr := [(mo, .inr (5, [.int th, .ref xt, .ref xk, .ref xr, .int (nI nt), .int (nI nk), .int (nI nr), .ref xu, .ref xv, .ref xb, .ref xw, .ref xo, .ref xl, .ref xp, .ref yr, .ref ys, .ref yw, .ref yt, .ref yl, .ref yc, .int (nI wd)])), (xv, .inl (k 1, 3, .inl fv))]) (va_runS (As := [.int (nI kd)]) (rest := [.ref mo]) ⟨hx, hb, hml, hown, hts⟩ (c_r_strange l D k tb H.size kd hkd) (va_cwS 1 hts (gS gm_587 gm_588 gm_57 gm_589) rfl rfl rfl (by decide +kernel) ⟨Nat.le_of_ble_eq_true rfl, Nat.le_of_ble_eq_true rfl⟩) (cP_S hP hD hK hG hS hA [] (by decide) rfl) rfl rfl hl.1 rfl (lv_room (Nat.le_of_ble_eq_true rfl)) dMd_restart_2 ⟨Nat.le_of_ble_eq_true rfl, Nat.le_of_ble_eq_true rfl⟩) hS hA hP hD [] [0, 1] rfl rfl (by decide) (by decide) (fun r1 u H locs hw hP hD hS => ?_)
  have hP : va_P D vwCl [(mo, .inr (5, [.int th, .ref xt, .ref xk, .ref xr, .int (nI nt), .int (nI nk), .int (nI nr), .ref xu, .ref xv, .ref xb, .ref xw, .ref xo, .ref xl, .ref xp, .ref yr, .ref ys, .ref yw, .ref yt, .ref yl, .ref yc, .int (nI wd)])), (xv, .inl (k 1, 3, .inl fv))] H := hP
  have hD : va_D A [(mo, .inr (5, [.int th, .ref xt, .ref xk, .ref xr, .int (nI nt), .int (nI nk), .int (nI nr), .ref xu, .ref xv, .ref xb, .ref xw, .ref xo, .ref xl, .ref xp, .ref yr, .ref ys, .ref yw, .ref yt, .ref yl, .ref yc, .int (nI wd)])), (xv, .inl (k 1, 3, .inl fv))] := hD
  subst hw
  refine rz_eq (tgt := 12) hx hb dMd_restart_5 (by decide) (by omega) (fun c_5 => ?_) (fun c_5 => absurd c_5 (by omega))
  refine lv_iconst (v := nI 0) hx hb dMd_restart_12 (by decide) ?_
  refine va_put (D := D) (ci := 5) (v := .int (nI 0)) (ty := .int) (C := R_Md) (T := T_Md) (N := 21) hx hb hts in_Md t_Md tk_Md nm_Md hown hK hP hD hS 0 rfl rfl 0 (by decide) (hts _ gm_525) (fun _ h9 => h9) rfl (by decide +kernel) rfl rfl (Nat.le_of_ble_eq_true rfl) dMd_restart_13 (fun H locs hP hD hS => ?_)
  have hP : va_P D vwCl [(mo, .inr (5, [.int (nI 0), .ref xt, .ref xk, .ref xr, .int (nI nt), .int (nI nk), .int (nI nr), .ref xu, .ref xv, .ref xb, .ref xw, .ref xo, .ref xl, .ref xp, .ref yr, .ref ys, .ref yw, .ref yt, .ref yl, .ref yc, .int (nI wd)])), (xv, .inl (k 1, 3, .inl fv))] H := hP
  have hD : va_D A [(mo, .inr (5, [.int (nI 0), .ref xt, .ref xk, .ref xr, .int (nI nt), .int (nI nk), .int (nI nr), .ref xu, .ref xv, .ref xb, .ref xw, .ref xo, .ref xl, .ref xp, .ref yr, .ref ys, .ref yw, .ref yt, .ref yl, .ref yc, .int (nI wd)])), (xv, .inl (k 1, 3, .inl fv))] := hD
  refine lv_aload_n hx hb dMd_restart_16 rfl (lv_at hl 0 rfl) ?_
  refine va_get (D := D) (ci := 5) (v := .int (nI 0)) (C := R_Md) (T := T_Md) (N := 21) hx hb hts in_Md hown hK hP 0 rfl rfl 0 (by decide) (hts _ gm_525) (fun _ h9 => h9) rfl dMd_restart_17 ?_
  refine rz_ne (tgt := 30) hx hb dMd_restart_20 (by decide) (by omega) (fun c_20 => absurd c_20 (by omega)) (fun c_20 => ?_)
  refine lv_aload_n hx hb dMd_restart_23 rfl (lv_at hl 0 rfl) ?_
  refine va_get (D := D) (ci := 5) (v := .ref xv) (C := R_Md) (T := T_Md) (N := 21) hx hb hts in_Md hown hK hP 0 rfl rfl 8 (by decide) (hts _ gm_533) (fun _ h9 => h9) rfl dMd_restart_24 ?_
  refine lv_iload_n hx hb dMd_restart_27 rfl (lv_at hl 1 rfl) ?_
  refine lv_iconst (v := nI 0) hx hb dMd_restart_28 (by decide) ?_
  refine rn_st hx hb hK hP hD hS 1 1 rfl rfl (by omega) (by omega) dMd_restart_29 (fun H locs hP hD hS => ?_)
  have hP : va_P D vwCl [(mo, .inr (5, [.int (nI 0), .ref xt, .ref xk, .ref xr, .int (nI nt), .int (nI nk), .int (nI nr), .ref xu, .ref xv, .ref xb, .ref xw, .ref xo, .ref xl, .ref xp, .ref yr, .ref ys, .ref yw, .ref yt, .ref yl, .ref yc, .int (nI wd)])), (xv, .inl (k 1, 3, .inl (upd fv kd (nI 0))))] H := hP
  have hD : va_D A [(mo, .inr (5, [.int (nI 0), .ref xt, .ref xk, .ref xr, .int (nI nt), .int (nI nk), .int (nI nr), .ref xu, .ref xv, .ref xb, .ref xw, .ref xo, .ref xl, .ref xp, .ref yr, .ref ys, .ref yw, .ref yt, .ref yl, .ref yc, .int (nI wd)])), (xv, .inl (k 1, 3, .inl (upd fv kd (nI 0))))] := hD
  refine W.widen (k := 0) (n := 0) (Nat.le_refl _) (Nat.le_refl _) ?_
  exact W.vret hx hb hr (fun t ht hW => ⟨⟨(), rfl, trivial, by rw [ht]; exact hP, hD⟩, hS.F ht⟩) hS.2.2 dMd_restart_30
set_option maxHeartbeats 600000 in
set_option maxRecDepth 100000 in
theorem t_r_restart (l : Launch) (D : va_G) (k : Nat → ClassId) (tb : Nat → Nat) (sz : Nat) (mo xt xk xr nt nk nr xu xv xb xw xo xl xp yr ys yw yt yl yc wd : Nat) (th : Int32) (x : Int32) (hq : ¬ x < 0 → x < nI 3 → False) : Met l yMd_restart wMd_restart ({ frames := 1, cells := 0, slots := 0, locals := 20 }) (cP D k tb [(mo, .inr (5, [.int th, .ref xt, .ref xk, .ref xr, .int (nI nt), .int (nI nk), .int (nI nr), .ref xu, .ref xv, .ref xb, .ref xw, .ref xo, .ref xl, .ref xp, .ref yr, .ref ys, .ref yw, .ref yt, .ref yl, .ref yc, .int (nI wd)]))] sz [.ref mo, .int x]) (va_Qv (fun (u : Unit) => True) (fun (u : Unit) (t : State) => va_P D vwCl [(mo, .inr (5, [.int (nI 1), .ref xt, .ref xk, .ref xr, .int (nI nt), .int (nI nk), .int (nI nr), .ref xu, .ref xv, .ref xb, .ref xw, .ref xo, .ref xl, .ref xp, .ref yr, .ref ys, .ref yw, .ref yt, .ref yl, .ref yc, .int (nI wd)]))] t.heap ∧ va_D (va_A [(mo, .inr (5, [.int th, .ref xt, .ref xk, .ref xr, .int (nI nt), .int (nI nk), .int (nI nr), .ref xu, .ref xv, .ref xb, .ref xw, .ref xo, .ref xl, .ref xp, .ref yr, .ref ys, .ref yw, .ref yt, .ref yl, .ref yc, .int (nI wd)]))] sz) [(mo, .inr (5, [.int (nI 1), .ref xt, .ref xk, .ref xr, .int (nI nt), .int (nI nk), .int (nI nr), .ref xu, .ref xv, .ref xb, .ref xw, .ref xo, .ref xl, .ref xp, .ref yr, .ref ys, .ref yw, .ref yt, .ref yl, .ref yc, .int (nI wd)]))]) (va_A [(mo, .inr (5, [.int th, .ref xt, .ref xk, .ref xr, .int (nI nt), .int (nI nk), .int (nI nr), .ref xu, .ref xv, .ref xb, .ref xw, .ref xo, .ref xl, .ref xp, .ref yr, .ref ys, .ref yw, .ref yt, .ref yl, .ref yc, .int (nI wd)]))] sz)) (0) (0) (va_A [(mo, .inr (5, [.int th, .ref xt, .ref xk, .ref xr, .int (nI nt), .int (nI nk), .int (nI nr), .ref xu, .ref xv, .ref xb, .ref xw, .ref xo, .ref xl, .ref xp, .ref yr, .ref ys, .ref yw, .ref yt, .ref yl, .ref yc, .int (nI wd)]))] sz) := by
  refine Met.ofW (cc := cMd_restart) (maxL := 2) (ret := none) (by decide) rfl ?_
  intro p e s m args below meth c s₁ B hml hv
  obtain ⟨rfl, hsz, hP, hK, hD0, hG⟩ := hv
  have hx := B.exec
  have hb := B.bytes
  have hr := B.returns
  have hts : ∀ w ∈ GT, w.before _ s = true := fun w h => atoms_spec (ws := wMd_restart) B.pre w (List.mem_cons_of_mem _ h)
  have hown : s.vm.findClass R_Md = some m.cls := findClass_of_methodNamed B.named
  have hlocks := B.notSynchronized
  subst hsz
  have hD := hD0.self (sz := s.heap.size)
  generalize hAe : va_A [(mo, .inr (5, [.int th, .ref xt, .ref xk, .ref xr, .int (nI nt), .int (nI nk), .int (nI nr), .ref xu, .ref xv, .ref xb, .ref xw, .ref xo, .ref xl, .ref xp, .ref yr, .ref ys, .ref yw, .ref yt, .ref yl, .ref yc, .int (nI wd)]))] s.heap.size = A at hD hG ⊢
  have hA : ∀ q : Nat, s.heap.size ≤ q → A q := fun q h => by rw [← hAe]; exact Or.inr h
  have hl := lv_entry ([.ref mo, .int x]) (n := 2) (Nat.le_of_ble_eq_true rfl)
  rw [lg_entry_eq]
  generalize (lg_sl ([.ref mo, .int x]) ++ List.replicate (2 - (lg_sl ([.ref mo, .int x])).length) Slot.unset).toArray = ls at hl ⊢
  have hl : lv_has ls 2 [(0, .ref mo), (1, .int x)] := hl
  refine cw_start (A := A) hP (fun H locs hP hS => ?_)
  refine lv_aload_n hx hb dMd_restart_0 rfl (lv_at hl 0 rfl) ?_
  refine lv_iload_n hx hb dMd_restart_1 rfl (lv_at hl 1 rfl) ?_
  refine rc_i (wr := [(mo, .inr (5, [.int th, .ref xt, .ref xk, .ref xr, .int (nI nt), .int (nI nk), .int (nI nr), .ref xu, .ref xv, .ref xb, .ref xw, .ref xo, .ref xl, .ref xp, .ref yr, .ref ys, .ref yw, .ref yt, .ref yl, .ref yc, .int (nI wd)]))]) (va_runS (As := [.int x]) (rest := [.ref mo]) ⟨hx, hb, hml, hown, hts⟩ (t_r_strange l D k tb H.size x hq) (va_cwS 1 hts (gS gm_587 gm_588 gm_57 gm_589) rfl rfl rfl (by decide +kernel) ⟨Nat.le_of_ble_eq_true rfl, Nat.le_of_ble_eq_true rfl⟩) (cP_S hP hD hK hG hS hA [] (by decide) rfl) rfl rfl hl.1 rfl (lv_room (Nat.le_of_ble_eq_true rfl)) dMd_restart_2 ⟨Nat.le_of_ble_eq_true rfl, Nat.le_of_ble_eq_true rfl⟩) hS hA hP hD [] [0] rfl rfl (by decide) (by decide) (fun r1 u H locs hw hP hD hS => ?_)
  have hP : va_P D vwCl [(mo, .inr (5, [.int th, .ref xt, .ref xk, .ref xr, .int (nI nt), .int (nI nk), .int (nI nr), .ref xu, .ref xv, .ref xb, .ref xw, .ref xo, .ref xl, .ref xp, .ref yr, .ref ys, .ref yw, .ref yt, .ref yl, .ref yc, .int (nI wd)]))] H := hP
  have hD : va_D A [(mo, .inr (5, [.int th, .ref xt, .ref xk, .ref xr, .int (nI nt), .int (nI nk), .int (nI nr), .ref xu, .ref xv, .ref xb, .ref xw, .ref xo, .ref xl, .ref xp, .ref yr, .ref ys, .ref yw, .ref yt, .ref yl, .ref yc, .int (nI wd)]))] := hD
  subst hw
  refine rz_eq (tgt := 12) hx hb dMd_restart_5 (by decide) (by omega) (fun c_5 => absurd c_5 (by omega)) (fun c_5 => ?_)
  refine lv_iconst (v := nI 1) hx hb dMd_restart_8 (by decide) ?_
  refine lv_goto (tgt := 13) hx hb dMd_restart_9 (by decide) ?_
  refine va_put (D := D) (ci := 5) (v := .int (nI 1)) (ty := .int) (C := R_Md) (T := T_Md) (N := 21) hx hb hts in_Md t_Md tk_Md nm_Md hown hK hP hD hS 0 rfl rfl 0 (by decide) (hts _ gm_525) (fun _ h9 => h9) rfl (by decide +kernel) rfl rfl (Nat.le_of_ble_eq_true rfl) dMd_restart_13 (fun H locs hP hD hS => ?_)
  have hP : va_P D vwCl [(mo, .inr (5, [.int (nI 1), .ref xt, .ref xk, .ref xr, .int (nI nt), .int (nI nk), .int (nI nr), .ref xu, .ref xv, .ref xb, .ref xw, .ref xo, .ref xl, .ref xp, .ref yr, .ref ys, .ref yw, .ref yt, .ref yl, .ref yc, .int (nI wd)]))] H := hP
  have hD : va_D A [(mo, .inr (5, [.int (nI 1), .ref xt, .ref xk, .ref xr, .int (nI nt), .int (nI nk), .int (nI nr), .ref xu, .ref xv, .ref xb, .ref xw, .ref xo, .ref xl, .ref xp, .ref yr, .ref ys, .ref yw, .ref yt, .ref yl, .ref yc, .int (nI wd)]))] := hD
  refine lv_aload_n hx hb dMd_restart_16 rfl (lv_at hl 0 rfl) ?_
  refine va_get (D := D) (ci := 5) (v := .int (nI 1)) (C := R_Md) (T := T_Md) (N := 21) hx hb hts in_Md hown hK hP 0 rfl rfl 0 (by decide) (hts _ gm_525) (fun _ h9 => h9) rfl dMd_restart_17 ?_
  refine rz_ne (tgt := 30) hx hb dMd_restart_20 (by decide) (by omega) (fun c_20 => ?_) (fun c_20 => absurd c_20 (by omega))
  refine W.widen (k := 0) (n := 0) (Nat.le_refl _) (Nat.le_refl _) ?_
  exact W.vret hx hb hr (fun t ht hW => ⟨⟨(), rfl, trivial, by rw [ht]; exact hP, hD⟩, hS.F ht⟩) hS.2.2 dMd_restart_30
set_option maxHeartbeats 600000 in
set_option maxRecDepth 100000 in
theorem c_r_key (l : Launch) (D : va_G) (k : Nat → ClassId) (tb : Nat → Nat) (sz : Nat) (mo xt xk xr nt nk nr xu xv xb xw xo xl xp yr ys yw yt yl yc wd : Nat) (th : Int32) (ft fk : Nat → Int8) (hn : nt ≤ 16384) : Met l yMd_key wMd_key ({ frames := 0, cells := 0, slots := 0, locals := 0 }) (cP D k tb [(mo, .inr (5, [.int th, .ref xt, .ref xk, .ref xr, .int (nI nt), .int (nI nk), .int (nI nr), .ref xu, .ref xv, .ref xb, .ref xw, .ref xo, .ref xl, .ref xp, .ref yr, .ref ys, .ref yw, .ref yt, .ref yl, .ref yc, .int (nI wd)])), (xt, .inl (k 0, 65536, .inl (by_ ft))), (xk, .inl (k 0, 65536, .inl (by_ fk)))] sz [.ref mo]) (va_Qi (fun (r : Int32) (u : Unit) => r = nI nt) (fun (u : Unit) (t : State) => va_P D vwCl [(mo, .inr (5, [.int (nI 0), .ref xt, .ref xk, .ref xr, .int (nI 0), .int (nI nt), .int (nI nr), .ref xu, .ref xv, .ref xb, .ref xw, .ref xo, .ref xl, .ref xp, .ref yr, .ref ys, .ref yw, .ref yt, .ref yl, .ref yc, .int (nI wd)])), (xt, .inl (k 0, 65536, .inl (by_ ft))), (xk, .inl (k 0, 65536, .inl (by_ (rcp ft fk 0 0 nt))))] t.heap ∧ va_D (va_A [(mo, .inr (5, [.int th, .ref xt, .ref xk, .ref xr, .int (nI nt), .int (nI nk), .int (nI nr), .ref xu, .ref xv, .ref xb, .ref xw, .ref xo, .ref xl, .ref xp, .ref yr, .ref ys, .ref yw, .ref yt, .ref yl, .ref yc, .int (nI wd)])), (xt, .inl (k 0, 65536, .inl (by_ ft))), (xk, .inl (k 0, 65536, .inl (by_ fk)))] sz) [(mo, .inr (5, [.int (nI 0), .ref xt, .ref xk, .ref xr, .int (nI 0), .int (nI nt), .int (nI nr), .ref xu, .ref xv, .ref xb, .ref xw, .ref xo, .ref xl, .ref xp, .ref yr, .ref ys, .ref yw, .ref yt, .ref yl, .ref yc, .int (nI wd)])), (xt, .inl (k 0, 65536, .inl (by_ ft))), (xk, .inl (k 0, 65536, .inl (by_ (rcp ft fk 0 0 nt))))]) (va_A [(mo, .inr (5, [.int th, .ref xt, .ref xk, .ref xr, .int (nI nt), .int (nI nk), .int (nI nr), .ref xu, .ref xv, .ref xb, .ref xw, .ref xo, .ref xl, .ref xp, .ref yr, .ref ys, .ref yw, .ref yt, .ref yl, .ref yc, .int (nI wd)])), (xt, .inl (k 0, 65536, .inl (by_ ft))), (xk, .inl (k 0, 65536, .inl (by_ fk)))] sz)) (0) (0) (va_A [(mo, .inr (5, [.int th, .ref xt, .ref xk, .ref xr, .int (nI nt), .int (nI nk), .int (nI nr), .ref xu, .ref xv, .ref xb, .ref xw, .ref xo, .ref xl, .ref xp, .ref yr, .ref ys, .ref yw, .ref yt, .ref yl, .ref yc, .int (nI wd)])), (xt, .inl (k 0, 65536, .inl (by_ ft))), (xk, .inl (k 0, 65536, .inl (by_ fk)))] sz) := by
  refine Met.ofW (cc := cMd_key) (maxL := 2) (ret := (some .int)) (by decide) rfl ?_
  intro p e s m args below meth c s₁ B hml hv
  obtain ⟨rfl, hsz, hP, hK, hD0, hG⟩ := hv
  have hx := B.exec
  have hb := B.bytes
  have hr := B.returns
  have hts : ∀ w ∈ GT, w.before _ s = true := fun w h => atoms_spec (ws := wMd_key) B.pre w (List.mem_cons_of_mem _ h)
  have hown : s.vm.findClass R_Md = some m.cls := findClass_of_methodNamed B.named
  have hlocks := B.notSynchronized
  subst hsz
  have hD := hD0.self (sz := s.heap.size)
  generalize hAe : va_A [(mo, .inr (5, [.int th, .ref xt, .ref xk, .ref xr, .int (nI nt), .int (nI nk), .int (nI nr), .ref xu, .ref xv, .ref xb, .ref xw, .ref xo, .ref xl, .ref xp, .ref yr, .ref ys, .ref yw, .ref yt, .ref yl, .ref yc, .int (nI wd)])), (xt, .inl (k 0, 65536, .inl (by_ ft))), (xk, .inl (k 0, 65536, .inl (by_ fk)))] s.heap.size = A at hD hG ⊢
  have hA : ∀ q : Nat, s.heap.size ≤ q → A q := fun q h => by rw [← hAe]; exact Or.inr h
  have hl := lv_entry ([.ref mo]) (n := 2) (Nat.le_of_ble_eq_true rfl)
  rw [lg_entry_eq]
  generalize (lg_sl ([.ref mo]) ++ List.replicate (2 - (lg_sl ([.ref mo])).length) Slot.unset).toArray = ls at hl ⊢
  have hl : lv_has ls 2 [(0, .ref mo)] := hl
  refine cw_start (A := A) hP (fun H locs hP hS => ?_)
  refine lv_aload_n hx hb dMd_key_0 rfl (lv_at hl 0 rfl) ?_
  refine lv_iconst (v := nI 0) hx hb dMd_key_1 (by decide) ?_
  refine va_put (D := D) (ci := 5) (v := .int (nI 0)) (ty := .int) (C := R_Md) (T := T_Md) (N := 21) hx hb hts in_Md t_Md tk_Md nm_Md hown hK hP hD hS 0 rfl rfl 0 (by decide) (hts _ gm_525) (fun _ h9 => h9) rfl (by decide +kernel) rfl rfl (Nat.le_of_ble_eq_true rfl) dMd_key_2 (fun H locs hP hD hS => ?_)
  have hP : va_P D vwCl [(mo, .inr (5, [.int (nI 0), .ref xt, .ref xk, .ref xr, .int (nI nt), .int (nI nk), .int (nI nr), .ref xu, .ref xv, .ref xb, .ref xw, .ref xo, .ref xl, .ref xp, .ref yr, .ref ys, .ref yw, .ref yt, .ref yl, .ref yc, .int (nI wd)])), (xt, .inl (k 0, 65536, .inl (by_ ft))), (xk, .inl (k 0, 65536, .inl (by_ fk)))] H := hP
  have hD : va_D A [(mo, .inr (5, [.int (nI 0), .ref xt, .ref xk, .ref xr, .int (nI nt), .int (nI nk), .int (nI nr), .ref xu, .ref xv, .ref xb, .ref xw, .ref xo, .ref xl, .ref xp, .ref yr, .ref ys, .ref yw, .ref yt, .ref yl, .ref yc, .int (nI wd)])), (xt, .inl (k 0, 65536, .inl (by_ ft))), (xk, .inl (k 0, 65536, .inl (by_ fk)))] := hD
  refine lv_iconst (v := nI 0) hx hb dMd_key_5 (by decide) ?_
  refine lv_istore_n (lv' := [(1, .int (nI 0)), (0, .ref mo)]) hx hb dMd_key_6 rfl hl (by decide) rfl (fun ls hl => ?_)
  refine ri_loop (fun i H locs ls => va_P D vwCl [(mo, .inr (5, [.int (nI 0), .ref xt, .ref xk, .ref xr, .int (nI nt), .int (nI nk), .int (nI nr), .ref xu, .ref xv, .ref xb, .ref xw, .ref xo, .ref xl, .ref xp, .ref yr, .ref ys, .ref yw, .ref yt, .ref yl, .ref yc, .int (nI wd)])), (xt, .inl (k 0, 65536, .inl (by_ ft))), (xk, .inl (k 0, 65536, .inl (by_ (rcp ft fk 0 0 i))))] H ∧ va_D A [(mo, .inr (5, [.int (nI 0), .ref xt, .ref xk, .ref xr, .int (nI nt), .int (nI nk), .int (nI nr), .ref xu, .ref xv, .ref xb, .ref xw, .ref xo, .ref xl, .ref xp, .ref yr, .ref ys, .ref yw, .ref yt, .ref yl, .ref yc, .int (nI wd)])), (xt, .inl (k 0, 65536, .inl (by_ ft))), (xk, .inl (k 0, 65536, .inl (by_ (rcp ft fk 0 0 i))))] ∧ va_S A s.heap H locs ∧ lv_has ls 2 [(1, .int (nI (0 + i))), (0, .ref mo)]) nt 0 ⟨hP, hD, hS, lv_sub hl [0, 1] rfl⟩ (by omega) (fun i H locs ls lt_i ⟨hP, hD, hS, hl⟩ ih => ?_) (fun H locs ls ⟨hP, hD, hS, hl⟩ => ?_)
  · skip
    refine lv_iload_n hx hb dMd_key_7 rfl (lv_at hl 0 rfl) ?_
    refine lv_aload_n hx hb dMd_key_8 rfl (lv_at hl 1 rfl) ?_
    refine va_get (D := D) (ci := 5) (v := .int (nI nt)) (C := R_Md) (T := T_Md) (N := 21) hx hb hts in_Md hown hK hP 0 rfl rfl 4 (by decide) (hts _ gm_529) (fun _ h9 => h9) rfl dMd_key_9 ?_
    refine ri_ge (tgt := 33) hx hb dMd_key_12 (by decide) (by omega) (by omega) (fun c_12 => absurd c_12 (by omega)) (fun c_12 => ?_)
    refine lv_aload_n hx hb dMd_key_15 rfl (lv_at hl 1 rfl) ?_
    refine va_get (D := D) (ci := 5) (v := .ref xk) (C := R_Md) (T := T_Md) (N := 21) hx hb hts in_Md hown hK hP 0 rfl rfl 2 (by decide) (hts _ gm_527) (fun _ h9 => h9) rfl dMd_key_16 ?_
    refine lv_iload_n hx hb dMd_key_19 rfl (lv_at hl 0 rfl) ?_
    refine lv_aload_n hx hb dMd_key_20 rfl (lv_at hl 1 rfl) ?_
    refine va_get (D := D) (ci := 5) (v := .ref xt) (C := R_Md) (T := T_Md) (N := 21) hx hb hts in_Md hown hK hP 0 rfl rfl 1 (by decide) (hts _ gm_526) (fun _ h9 => h9) rfl dMd_key_21 ?_
    refine lv_iload_n hx hb dMd_key_24 rfl (lv_at hl 0 rfl) ?_
    refine rb_ld hx hb hK hP 1 0 rfl rfl (by omega) (by omega) dMd_key_25 ?_
    refine rb_st (z := (ft (0 + i))) hx hb hK hP hD hS 2 0 rfl rfl (by omega) (by omega) dMd_key_26 (fun H locs hP hD hS => ?_)
    have hP : va_P D vwCl [(mo, .inr (5, [.int (nI 0), .ref xt, .ref xk, .ref xr, .int (nI nt), .int (nI nk), .int (nI nr), .ref xu, .ref xv, .ref xb, .ref xw, .ref xo, .ref xl, .ref xp, .ref yr, .ref ys, .ref yw, .ref yt, .ref yl, .ref yc, .int (nI wd)])), (xt, .inl (k 0, 65536, .inl (by_ ft))), (xk, .inl (k 0, 65536, .inl (by_ (va_up (rcp ft fk 0 0 i) (0 + i) (ft (0 + i))))))] H := hP
    have hD : va_D A [(mo, .inr (5, [.int (nI 0), .ref xt, .ref xk, .ref xr, .int (nI nt), .int (nI nk), .int (nI nr), .ref xu, .ref xv, .ref xb, .ref xw, .ref xo, .ref xl, .ref xp, .ref yr, .ref ys, .ref yw, .ref yt, .ref yl, .ref yc, .int (nI wd)])), (xt, .inl (k 0, 65536, .inl (by_ ft))), (xk, .inl (k 0, 65536, .inl (by_ (va_up (rcp ft fk 0 0 i) (0 + i) (ft (0 + i))))))] := hD
    refine ri_inc (lv' := [(1, .int (nI (0 + i + 1))), (0, .ref mo)]) (k := 0) (d := 1) hx hb dMd_key_27 hl rfl (by decide) (by decide) rfl (fun ls hl => ?_)
    refine lv_goto (tgt := 7) hx hb dMd_key_30 (by decide) ?_
    exact ih _ _ _ ⟨hP, hD, hS, lv_sub hl [0, 1] rfl⟩
  · skip
    refine lv_iload_n hx hb dMd_key_7 rfl (lv_at hl 0 rfl) ?_
    refine lv_aload_n hx hb dMd_key_8 rfl (lv_at hl 1 rfl) ?_
    refine va_get (D := D) (ci := 5) (v := .int (nI nt)) (C := R_Md) (T := T_Md) (N := 21) hx hb hts in_Md hown hK hP 0 rfl rfl 4 (by decide) (hts _ gm_529) (fun _ h9 => h9) rfl dMd_key_9 ?_
    refine ri_ge (tgt := 33) hx hb dMd_key_12 (by decide) (by omega) (by omega) (fun c_12 => ?_) (fun c_12 => absurd c_12 (by omega))
    refine lv_aload_n hx hb dMd_key_33 rfl (lv_at hl 1 rfl) ?_
    refine lv_aload_n hx hb dMd_key_34 rfl (lv_at hl 1 rfl) ?_
    refine va_get (D := D) (ci := 5) (v := .int (nI nt)) (C := R_Md) (T := T_Md) (N := 21) hx hb hts in_Md hown hK hP 0 rfl rfl 4 (by decide) (hts _ gm_529) (fun _ h9 => h9) rfl dMd_key_35 ?_
    refine va_put (D := D) (ci := 5) (v := .int (nI nt)) (ty := .int) (C := R_Md) (T := T_Md) (N := 21) hx hb hts in_Md t_Md tk_Md nm_Md hown hK hP hD hS 0 rfl rfl 5 (by decide) (hts _ gm_530) (fun _ h9 => h9) rfl (by decide +kernel) rfl rfl (Nat.le_of_ble_eq_true rfl) dMd_key_38 (fun H locs hP hD hS => ?_)
    have hP : va_P D vwCl [(mo, .inr (5, [.int (nI 0), .ref xt, .ref xk, .ref xr, .int (nI nt), .int (nI nt), .int (nI nr), .ref xu, .ref xv, .ref xb, .ref xw, .ref xo, .ref xl, .ref xp, .ref yr, .ref ys, .ref yw, .ref yt, .ref yl, .ref yc, .int (nI wd)])), (xt, .inl (k 0, 65536, .inl (by_ ft))), (xk, .inl (k 0, 65536, .inl (by_ (rcp ft fk 0 0 nt))))] H := hP
    have hD : va_D A [(mo, .inr (5, [.int (nI 0), .ref xt, .ref xk, .ref xr, .int (nI nt), .int (nI nt), .int (nI nr), .ref xu, .ref xv, .ref xb, .ref xw, .ref xo, .ref xl, .ref xp, .ref yr, .ref ys, .ref yw, .ref yt, .ref yl, .ref yc, .int (nI wd)])), (xt, .inl (k 0, 65536, .inl (by_ ft))), (xk, .inl (k 0, 65536, .inl (by_ (rcp ft fk 0 0 nt))))] := hD
    refine lv_aload_n hx hb dMd_key_41 rfl (lv_at hl 1 rfl) ?_
    refine lv_iconst (v := nI 0) hx hb dMd_key_42 (by decide) ?_
    refine va_put (D := D) (ci := 5) (v := .int (nI 0)) (ty := .int) (C := R_Md) (T := T_Md) (N := 21) hx hb hts in_Md t_Md tk_Md nm_Md hown hK hP hD hS 0 rfl rfl 4 (by decide) (hts _ gm_529) (fun _ h9 => h9) rfl (by decide +kernel) rfl rfl (Nat.le_of_ble_eq_true rfl) dMd_key_43 (fun H locs hP hD hS => ?_)
    have hP : va_P D vwCl [(mo, .inr (5, [.int (nI 0), .ref xt, .ref xk, .ref xr, .int (nI 0), .int (nI nt), .int (nI nr), .ref xu, .ref xv, .ref xb, .ref xw, .ref xo, .ref xl, .ref xp, .ref yr, .ref ys, .ref yw, .ref yt, .ref yl, .ref yc, .int (nI wd)])), (xt, .inl (k 0, 65536, .inl (by_ ft))), (xk, .inl (k 0, 65536, .inl (by_ (rcp ft fk 0 0 nt))))] H := hP
    have hD : va_D A [(mo, .inr (5, [.int (nI 0), .ref xt, .ref xk, .ref xr, .int (nI 0), .int (nI nt), .int (nI nr), .ref xu, .ref xv, .ref xb, .ref xw, .ref xo, .ref xl, .ref xp, .ref yr, .ref ys, .ref yw, .ref yt, .ref yl, .ref yc, .int (nI wd)])), (xt, .inl (k 0, 65536, .inl (by_ ft))), (xk, .inl (k 0, 65536, .inl (by_ (rcp ft fk 0 0 nt))))] := hD
    refine lv_aload_n hx hb dMd_key_46 rfl (lv_at hl 1 rfl) ?_
    refine va_get (D := D) (ci := 5) (v := .int (nI nt)) (C := R_Md) (T := T_Md) (N := 21) hx hb hts in_Md hown hK hP 0 rfl rfl 5 (by decide) (hts _ gm_530) (fun _ h9 => h9) rfl dMd_key_47 ?_
    refine W.widen (k := 0) (n := 0) (Nat.le_refl _) (Nat.le_refl _) ?_
    exact W.iret (v := nI nt) hx hb hr (fun t ht hW => ⟨⟨nI nt, (), rfl, rfl, by rw [ht]; exact hP, hD⟩, hS.F ht⟩) hS.2.2 dMd_key_50
set_option maxHeartbeats 600000 in
set_option maxRecDepth 100000 in
theorem c_r_keep (l : Launch) (D : va_G) (k : Nat → ClassId) (tb : Nat → Nat) (sz : Nat) (mo xt xk xr nt nk nr xu xv xb xw xo xl xp yr ys yw yt yl yc wd : Nat) (th : Int32) (fr fk : Nat → Int8) (hn : nr ≤ 16384) : Met l yMd_keep wMd_keep ({ frames := 0, cells := 0, slots := 0, locals := 0 }) (cP D k tb [(mo, .inr (5, [.int th, .ref xt, .ref xk, .ref xr, .int (nI nt), .int (nI nk), .int (nI nr), .ref xu, .ref xv, .ref xb, .ref xw, .ref xo, .ref xl, .ref xp, .ref yr, .ref ys, .ref yw, .ref yt, .ref yl, .ref yc, .int (nI wd)])), (xr, .inl (k 0, 16384, .inl (by_ fr))), (xk, .inl (k 0, 65536, .inl (by_ fk)))] sz [.ref mo]) (va_Qi (fun (r : Int32) (u : Unit) => r = nI nr) (fun (u : Unit) (t : State) => va_P D vwCl [(mo, .inr (5, [.int (nI 0), .ref xt, .ref xk, .ref xr, .int (nI nt), .int (nI nr), .int (nI nr), .ref xu, .ref xv, .ref xb, .ref xw, .ref xo, .ref xl, .ref xp, .ref yr, .ref ys, .ref yw, .ref yt, .ref yl, .ref yc, .int (nI wd)])), (xr, .inl (k 0, 16384, .inl (by_ fr))), (xk, .inl (k 0, 65536, .inl (by_ (rcp fr fk 0 0 nr))))] t.heap ∧ va_D (va_A [(mo, .inr (5, [.int th, .ref xt, .ref xk, .ref xr, .int (nI nt), .int (nI nk), .int (nI nr), .ref xu, .ref xv, .ref xb, .ref xw, .ref xo, .ref xl, .ref xp, .ref yr, .ref ys, .ref yw, .ref yt, .ref yl, .ref yc, .int (nI wd)])), (xr, .inl (k 0, 16384, .inl (by_ fr))), (xk, .inl (k 0, 65536, .inl (by_ fk)))] sz) [(mo, .inr (5, [.int (nI 0), .ref xt, .ref xk, .ref xr, .int (nI nt), .int (nI nr), .int (nI nr), .ref xu, .ref xv, .ref xb, .ref xw, .ref xo, .ref xl, .ref xp, .ref yr, .ref ys, .ref yw, .ref yt, .ref yl, .ref yc, .int (nI wd)])), (xr, .inl (k 0, 16384, .inl (by_ fr))), (xk, .inl (k 0, 65536, .inl (by_ (rcp fr fk 0 0 nr))))]) (va_A [(mo, .inr (5, [.int th, .ref xt, .ref xk, .ref xr, .int (nI nt), .int (nI nk), .int (nI nr), .ref xu, .ref xv, .ref xb, .ref xw, .ref xo, .ref xl, .ref xp, .ref yr, .ref ys, .ref yw, .ref yt, .ref yl, .ref yc, .int (nI wd)])), (xr, .inl (k 0, 16384, .inl (by_ fr))), (xk, .inl (k 0, 65536, .inl (by_ fk)))] sz)) (0) (0) (va_A [(mo, .inr (5, [.int th, .ref xt, .ref xk, .ref xr, .int (nI nt), .int (nI nk), .int (nI nr), .ref xu, .ref xv, .ref xb, .ref xw, .ref xo, .ref xl, .ref xp, .ref yr, .ref ys, .ref yw, .ref yt, .ref yl, .ref yc, .int (nI wd)])), (xr, .inl (k 0, 16384, .inl (by_ fr))), (xk, .inl (k 0, 65536, .inl (by_ fk)))] sz) := by
  refine Met.ofW (cc := cMd_keep) (maxL := 2) (ret := (some .int)) (by decide) rfl ?_
  intro p e s m args below meth c s₁ B hml hv
  obtain ⟨rfl, hsz, hP, hK, hD0, hG⟩ := hv
  have hx := B.exec
  have hb := B.bytes
  have hr := B.returns
  have hts : ∀ w ∈ GT, w.before _ s = true := fun w h => atoms_spec (ws := wMd_keep) B.pre w (List.mem_cons_of_mem _ h)
  have hown : s.vm.findClass R_Md = some m.cls := findClass_of_methodNamed B.named
  have hlocks := B.notSynchronized
  subst hsz
  have hD := hD0.self (sz := s.heap.size)
  generalize hAe : va_A [(mo, .inr (5, [.int th, .ref xt, .ref xk, .ref xr, .int (nI nt), .int (nI nk), .int (nI nr), .ref xu, .ref xv, .ref xb, .ref xw, .ref xo, .ref xl, .ref xp, .ref yr, .ref ys, .ref yw, .ref yt, .ref yl, .ref yc, .int (nI wd)])), (xr, .inl (k 0, 16384, .inl (by_ fr))), (xk, .inl (k 0, 65536, .inl (by_ fk)))] s.heap.size = A at hD hG ⊢
  have hA : ∀ q : Nat, s.heap.size ≤ q → A q := fun q h => by rw [← hAe]; exact Or.inr h
  have hl := lv_entry ([.ref mo]) (n := 2) (Nat.le_of_ble_eq_true rfl)
  rw [lg_entry_eq]
  generalize (lg_sl ([.ref mo]) ++ List.replicate (2 - (lg_sl ([.ref mo])).length) Slot.unset).toArray = ls at hl ⊢
  have hl : lv_has ls 2 [(0, .ref mo)] := hl
  refine cw_start (A := A) hP (fun H locs hP hS => ?_)
  refine lv_aload_n hx hb dMd_keep_0 rfl (lv_at hl 0 rfl) ?_
  refine lv_iconst (v := nI 0) hx hb dMd_keep_1 (by decide) ?_
  refine va_put (D := D) (ci := 5) (v := .int (nI 0)) (ty := .int) (C := R_Md) (T := T_Md) (N := 21) hx hb hts in_Md t_Md tk_Md nm_Md hown hK hP hD hS 0 rfl rfl 0 (by decide) (hts _ gm_525) (fun _ h9 => h9) rfl (by decide +kernel) rfl rfl (Nat.le_of_ble_eq_true rfl) dMd_keep_2 (fun H locs hP hD hS => ?_)
  have hP : va_P D vwCl [(mo, .inr (5, [.int (nI 0), .ref xt, .ref xk, .ref xr, .int (nI nt), .int (nI nk), .int (nI nr), .ref xu, .ref xv, .ref xb, .ref xw, .ref xo, .ref xl, .ref xp, .ref yr, .ref ys, .ref yw, .ref yt, .ref yl, .ref yc, .int (nI wd)])), (xr, .inl (k 0, 16384, .inl (by_ fr))), (xk, .inl (k 0, 65536, .inl (by_ fk)))] H := hP
  have hD : va_D A [(mo, .inr (5, [.int (nI 0), .ref xt, .ref xk, .ref xr, .int (nI nt), .int (nI nk), .int (nI nr), .ref xu, .ref xv, .ref xb, .ref xw, .ref xo, .ref xl, .ref xp, .ref yr, .ref ys, .ref yw, .ref yt, .ref yl, .ref yc, .int (nI wd)])), (xr, .inl (k 0, 16384, .inl (by_ fr))), (xk, .inl (k 0, 65536, .inl (by_ fk)))] := hD
  refine lv_iconst (v := nI 0) hx hb dMd_keep_5 (by decide) ?_
  refine lv_istore_n (lv' := [(1, .int (nI 0)), (0, .ref mo)]) hx hb dMd_keep_6 rfl hl (by decide) rfl (fun ls hl => ?_)
  refine ri_loop (fun i H locs ls => va_P D vwCl [(mo, .inr (5, [.int (nI 0), .ref xt, .ref xk, .ref xr, .int (nI nt), .int (nI nk), .int (nI nr), .ref xu, .ref xv, .ref xb, .ref xw, .ref xo, .ref xl, .ref xp, .ref yr, .ref ys, .ref yw, .ref yt, .ref yl, .ref yc, .int (nI wd)])), (xr, .inl (k 0, 16384, .inl (by_ fr))), (xk, .inl (k 0, 65536, .inl (by_ (rcp fr fk 0 0 i))))] H ∧ va_D A [(mo, .inr (5, [.int (nI 0), .ref xt, .ref xk, .ref xr, .int (nI nt), .int (nI nk), .int (nI nr), .ref xu, .ref xv, .ref xb, .ref xw, .ref xo, .ref xl, .ref xp, .ref yr, .ref ys, .ref yw, .ref yt, .ref yl, .ref yc, .int (nI wd)])), (xr, .inl (k 0, 16384, .inl (by_ fr))), (xk, .inl (k 0, 65536, .inl (by_ (rcp fr fk 0 0 i))))] ∧ va_S A s.heap H locs ∧ lv_has ls 2 [(1, .int (nI (0 + i))), (0, .ref mo)]) nr 0 ⟨hP, hD, hS, lv_sub hl [0, 1] rfl⟩ (by omega) (fun i H locs ls lt_i ⟨hP, hD, hS, hl⟩ ih => ?_) (fun H locs ls ⟨hP, hD, hS, hl⟩ => ?_)
  · skip
    refine lv_iload_n hx hb dMd_keep_7 rfl (lv_at hl 0 rfl) ?_
    refine lv_aload_n hx hb dMd_keep_8 rfl (lv_at hl 1 rfl) ?_
    refine va_get (D := D) (ci := 5) (v := .int (nI nr)) (C := R_Md) (T := T_Md) (N := 21) hx hb hts in_Md hown hK hP 0 rfl rfl 6 (by decide) (hts _ gm_531) (fun _ h9 => h9) rfl dMd_keep_9 ?_
    refine ri_ge (tgt := 33) hx hb dMd_keep_12 (by decide) (by omega) (by omega) (fun c_12 => absurd c_12 (by omega)) (fun c_12 => ?_)
    refine lv_aload_n hx hb dMd_keep_15 rfl (lv_at hl 1 rfl) ?_
    refine va_get (D := D) (ci := 5) (v := .ref xk) (C := R_Md) (T := T_Md) (N := 21) hx hb hts in_Md hown hK hP 0 rfl rfl 2 (by decide) (hts _ gm_527) (fun _ h9 => h9) rfl dMd_keep_16 ?_
    refine lv_iload_n hx hb dMd_keep_19 rfl (lv_at hl 0 rfl) ?_
    refine lv_aload_n hx hb dMd_keep_20 rfl (lv_at hl 1 rfl) ?_
    refine va_get (D := D) (ci := 5) (v := .ref xr) (C := R_Md) (T := T_Md) (N := 21) hx hb hts in_Md hown hK hP 0 rfl rfl 3 (by decide) (hts _ gm_528) (fun _ h9 => h9) rfl dMd_keep_21 ?_
    refine lv_iload_n hx hb dMd_keep_24 rfl (lv_at hl 0 rfl) ?_
    refine rb_ld hx hb hK hP 1 0 rfl rfl (by omega) (by omega) dMd_keep_25 ?_
    refine rb_st (z := (fr (0 + i))) hx hb hK hP hD hS 2 0 rfl rfl (by omega) (by omega) dMd_keep_26 (fun H locs hP hD hS => ?_)
    have hP : va_P D vwCl [(mo, .inr (5, [.int (nI 0), .ref xt, .ref xk, .ref xr, .int (nI nt), .int (nI nk), .int (nI nr), .ref xu, .ref xv, .ref xb, .ref xw, .ref xo, .ref xl, .ref xp, .ref yr, .ref ys, .ref yw, .ref yt, .ref yl, .ref yc, .int (nI wd)])), (xr, .inl (k 0, 16384, .inl (by_ fr))), (xk, .inl (k 0, 65536, .inl (by_ (va_up (rcp fr fk 0 0 i) (0 + i) (fr (0 + i))))))] H := hP
    have hD : va_D A [(mo, .inr (5, [.int (nI 0), .ref xt, .ref xk, .ref xr, .int (nI nt), .int (nI nk), .int (nI nr), .ref xu, .ref xv, .ref xb, .ref xw, .ref xo, .ref xl, .ref xp, .ref yr, .ref ys, .ref yw, .ref yt, .ref yl, .ref yc, .int (nI wd)])), (xr, .inl (k 0, 16384, .inl (by_ fr))), (xk, .inl (k 0, 65536, .inl (by_ (va_up (rcp fr fk 0 0 i) (0 + i) (fr (0 + i))))))] := hD
    refine ri_inc (lv' := [(1, .int (nI (0 + i + 1))), (0, .ref mo)]) (k := 0) (d := 1) hx hb dMd_keep_27 hl rfl (by decide) (by decide) rfl (fun ls hl => ?_)
    refine lv_goto (tgt := 7) hx hb dMd_keep_30 (by decide) ?_
    exact ih _ _ _ ⟨hP, hD, hS, lv_sub hl [0, 1] rfl⟩
  · skip
    refine lv_iload_n hx hb dMd_keep_7 rfl (lv_at hl 0 rfl) ?_
    refine lv_aload_n hx hb dMd_keep_8 rfl (lv_at hl 1 rfl) ?_
    refine va_get (D := D) (ci := 5) (v := .int (nI nr)) (C := R_Md) (T := T_Md) (N := 21) hx hb hts in_Md hown hK hP 0 rfl rfl 6 (by decide) (hts _ gm_531) (fun _ h9 => h9) rfl dMd_keep_9 ?_
    refine ri_ge (tgt := 33) hx hb dMd_keep_12 (by decide) (by omega) (by omega) (fun c_12 => ?_) (fun c_12 => absurd c_12 (by omega))
    refine lv_aload_n hx hb dMd_keep_33 rfl (lv_at hl 1 rfl) ?_
    refine lv_aload_n hx hb dMd_keep_34 rfl (lv_at hl 1 rfl) ?_
    refine va_get (D := D) (ci := 5) (v := .int (nI nr)) (C := R_Md) (T := T_Md) (N := 21) hx hb hts in_Md hown hK hP 0 rfl rfl 6 (by decide) (hts _ gm_531) (fun _ h9 => h9) rfl dMd_keep_35 ?_
    refine va_put (D := D) (ci := 5) (v := .int (nI nr)) (ty := .int) (C := R_Md) (T := T_Md) (N := 21) hx hb hts in_Md t_Md tk_Md nm_Md hown hK hP hD hS 0 rfl rfl 5 (by decide) (hts _ gm_530) (fun _ h9 => h9) rfl (by decide +kernel) rfl rfl (Nat.le_of_ble_eq_true rfl) dMd_keep_38 (fun H locs hP hD hS => ?_)
    have hP : va_P D vwCl [(mo, .inr (5, [.int (nI 0), .ref xt, .ref xk, .ref xr, .int (nI nt), .int (nI nr), .int (nI nr), .ref xu, .ref xv, .ref xb, .ref xw, .ref xo, .ref xl, .ref xp, .ref yr, .ref ys, .ref yw, .ref yt, .ref yl, .ref yc, .int (nI wd)])), (xr, .inl (k 0, 16384, .inl (by_ fr))), (xk, .inl (k 0, 65536, .inl (by_ (rcp fr fk 0 0 nr))))] H := hP
    have hD : va_D A [(mo, .inr (5, [.int (nI 0), .ref xt, .ref xk, .ref xr, .int (nI nt), .int (nI nr), .int (nI nr), .ref xu, .ref xv, .ref xb, .ref xw, .ref xo, .ref xl, .ref xp, .ref yr, .ref ys, .ref yw, .ref yt, .ref yl, .ref yc, .int (nI wd)])), (xr, .inl (k 0, 16384, .inl (by_ fr))), (xk, .inl (k 0, 65536, .inl (by_ (rcp fr fk 0 0 nr))))] := hD
    refine lv_aload_n hx hb dMd_keep_41 rfl (lv_at hl 1 rfl) ?_
    refine va_get (D := D) (ci := 5) (v := .int (nI nr)) (C := R_Md) (T := T_Md) (N := 21) hx hb hts in_Md hown hK hP 0 rfl rfl 5 (by decide) (hts _ gm_530) (fun _ h9 => h9) rfl dMd_keep_42 ?_
    refine W.widen (k := 0) (n := 0) (Nat.le_refl _) (Nat.le_refl _) ?_
    exact W.iret (v := nI nr) hx hb hr (fun t ht hW => ⟨⟨nI nr, (), rfl, rfl, by rw [ht]; exact hP, hD⟩, hS.F ht⟩) hS.2.2 dMd_keep_45
set_option maxHeartbeats 600000 in
set_option maxRecDepth 100000 in
theorem c_r_feed (l : Launch) (D : va_G) (k : Nat → ClassId) (tb : Nat → Nat) (sz : Nat) (mo xt xk xr nt nk nr xu xv xb xw xo xl xp yr ys yw yt yl yc wd : Nat) (th : Int32) (p0 p1 p2 p3 p4 : Int32) (ft : Nat → Int8) (hnt : nt < 20000) : Met l yMd_feed wMd_feed ({ frames := 0, cells := 0, slots := 0, locals := 0 }) (cP D k tb [(mo, .inr (5, [.int th, .ref xt, .ref xk, .ref xr, .int (nI nt), .int (nI nk), .int (nI nr), .ref xu, .ref xv, .ref xb, .ref xw, .ref xo, .ref xl, .ref xp, .ref yr, .ref ys, .ref yw, .ref yt, .ref yl, .ref yc, .int (nI wd)])), (xt, .inl (k 0, 65536, .inl (by_ ft)))] sz [.ref mo, .int p0, .int p1, .int p2, .int p3, .int p4]) (va_Qi (fun (r : Int32) (u : Unit) => r = nI (nt + 20)) (fun (u : Unit) (t : State) => va_P D vwCl [(mo, .inr (5, [.int (nI 0), .ref xt, .ref xk, .ref xr, .int (nI (nt + 20)), .int (nI nk), .int (nI nr), .ref xu, .ref xv, .ref xb, .ref xw, .ref xo, .ref xl, .ref xp, .ref yr, .ref ys, .ref yw, .ref yt, .ref yl, .ref yc, .int (nI wd)])), (xt, .inl (k 0, 65536, .inl (by_ (rFd p0 p1 p2 p3 p4 ft nt 20))))] t.heap ∧ va_D (va_A [(mo, .inr (5, [.int th, .ref xt, .ref xk, .ref xr, .int (nI nt), .int (nI nk), .int (nI nr), .ref xu, .ref xv, .ref xb, .ref xw, .ref xo, .ref xl, .ref xp, .ref yr, .ref ys, .ref yw, .ref yt, .ref yl, .ref yc, .int (nI wd)])), (xt, .inl (k 0, 65536, .inl (by_ ft)))] sz) [(mo, .inr (5, [.int (nI 0), .ref xt, .ref xk, .ref xr, .int (nI (nt + 20)), .int (nI nk), .int (nI nr), .ref xu, .ref xv, .ref xb, .ref xw, .ref xo, .ref xl, .ref xp, .ref yr, .ref ys, .ref yw, .ref yt, .ref yl, .ref yc, .int (nI wd)])), (xt, .inl (k 0, 65536, .inl (by_ (rFd p0 p1 p2 p3 p4 ft nt 20))))]) (va_A [(mo, .inr (5, [.int th, .ref xt, .ref xk, .ref xr, .int (nI nt), .int (nI nk), .int (nI nr), .ref xu, .ref xv, .ref xb, .ref xw, .ref xo, .ref xl, .ref xp, .ref yr, .ref ys, .ref yw, .ref yt, .ref yl, .ref yc, .int (nI wd)])), (xt, .inl (k 0, 65536, .inl (by_ ft)))] sz)) (0) (0) (va_A [(mo, .inr (5, [.int th, .ref xt, .ref xk, .ref xr, .int (nI nt), .int (nI nk), .int (nI nr), .ref xu, .ref xv, .ref xb, .ref xw, .ref xo, .ref xl, .ref xp, .ref yr, .ref ys, .ref yw, .ref yt, .ref yl, .ref yc, .int (nI wd)])), (xt, .inl (k 0, 65536, .inl (by_ ft)))] sz) := by
  refine Met.ofW (cc := cMd_feed) (maxL := 8) (ret := (some .int)) (by decide) rfl ?_
  intro p e s m args below meth c s₁ B hml hv
  obtain ⟨rfl, hsz, hP, hK, hD0, hG⟩ := hv
  have hx := B.exec
  have hb := B.bytes
  have hr := B.returns
  have hts : ∀ w ∈ GT, w.before _ s = true := fun w h => atoms_spec (ws := wMd_feed) B.pre w (List.mem_cons_of_mem _ h)
  have hown : s.vm.findClass R_Md = some m.cls := findClass_of_methodNamed B.named
  have hlocks := B.notSynchronized
  subst hsz
  have hD := hD0.self (sz := s.heap.size)
  generalize hAe : va_A [(mo, .inr (5, [.int th, .ref xt, .ref xk, .ref xr, .int (nI nt), .int (nI nk), .int (nI nr), .ref xu, .ref xv, .ref xb, .ref xw, .ref xo, .ref xl, .ref xp, .ref yr, .ref ys, .ref yw, .ref yt, .ref yl, .ref yc, .int (nI wd)])), (xt, .inl (k 0, 65536, .inl (by_ ft)))] s.heap.size = A at hD hG ⊢
  have hA : ∀ q : Nat, s.heap.size ≤ q → A q := fun q h => by rw [← hAe]; exact Or.inr h
  have hl := lv_entry ([.ref mo, .int p0, .int p1, .int p2, .int p3, .int p4]) (n := 8) (Nat.le_of_ble_eq_true rfl)
  rw [lg_entry_eq]
  generalize (lg_sl ([.ref mo, .int p0, .int p1, .int p2, .int p3, .int p4]) ++ List.replicate (8 - (lg_sl ([.ref mo, .int p0, .int p1, .int p2, .int p3, .int p4])).length) Slot.unset).toArray = ls at hl ⊢
  have hl : lv_has ls 8 [(0, .ref mo), (1, .int p0), (2, .int p1), (3, .int p2), (4, .int p3), (5, .int p4)] := hl
  refine cw_start (A := A) hP (fun H locs hP hS => ?_)
  refine lv_aload_n hx hb dMd_feed_0 rfl (lv_at hl 0 rfl) ?_
  refine lv_iconst (v := nI 0) hx hb dMd_feed_1 (by decide) ?_
  refine va_put (D := D) (ci := 5) (v := .int (nI 0)) (ty := .int) (C := R_Md) (T := T_Md) (N := 21) hx hb hts in_Md t_Md tk_Md nm_Md hown hK hP hD hS 0 rfl rfl 0 (by decide) (hts _ gm_525) (fun _ h9 => h9) rfl (by decide +kernel) rfl rfl (Nat.le_of_ble_eq_true rfl) dMd_feed_2 (fun H locs hP hD hS => ?_)
  have hP : va_P D vwCl [(mo, .inr (5, [.int (nI 0), .ref xt, .ref xk, .ref xr, .int (nI nt), .int (nI nk), .int (nI nr), .ref xu, .ref xv, .ref xb, .ref xw, .ref xo, .ref xl, .ref xp, .ref yr, .ref ys, .ref yw, .ref yt, .ref yl, .ref yc, .int (nI wd)])), (xt, .inl (k 0, 65536, .inl (by_ ft)))] H := hP
  have hD : va_D A [(mo, .inr (5, [.int (nI 0), .ref xt, .ref xk, .ref xr, .int (nI nt), .int (nI nk), .int (nI nr), .ref xu, .ref xv, .ref xb, .ref xw, .ref xo, .ref xl, .ref xp, .ref yr, .ref ys, .ref yw, .ref yt, .ref yl, .ref yc, .int (nI wd)])), (xt, .inl (k 0, 65536, .inl (by_ ft)))] := hD
  refine lv_aload_n hx hb dMd_feed_5 rfl (lv_at hl 0 rfl) ?_
  refine va_get (D := D) (ci := 5) (v := .int (nI nt)) (C := R_Md) (T := T_Md) (N := 21) hx hb hts in_Md hown hK hP 0 rfl rfl 4 (by decide) (hts _ gm_529) (fun _ h9 => h9) rfl dMd_feed_6 ?_
  refine lv_ldc (v := 65516) hx hb hown (hts _ gm_575) dMd_feed_9 ?_
  rw [show (65516 : Int32) = nI 65516 from rfl]
  refine ri_le (tgt := 20) hx hb dMd_feed_11 (by decide) (by omega) (by omega) (fun c_11 => ?_) (fun c_11 => absurd c_11 (by omega))
  refine lv_iconst (v := nI 0) hx hb dMd_feed_20 (by decide) ?_
  refine lv_istore (lv' := [(6, .int (nI 0)), (0, .ref mo), (1, .int p0), (2, .int p1), (3, .int p2), (4, .int p3), (5, .int p4)]) hx hb dMd_feed_21 hl (by decide) rfl (fun ls hl => ?_)
  refine ri_loop (fun i H locs ls => va_P D vwCl [(mo, .inr (5, [.int (nI 0), .ref xt, .ref xk, .ref xr, .int (nI nt), .int (nI nk), .int (nI nr), .ref xu, .ref xv, .ref xb, .ref xw, .ref xo, .ref xl, .ref xp, .ref yr, .ref ys, .ref yw, .ref yt, .ref yl, .ref yc, .int (nI wd)])), (xt, .inl (k 0, 65536, .inl (by_ (rFd p0 p1 p2 p3 p4 ft nt i))))] H ∧ va_D A [(mo, .inr (5, [.int (nI 0), .ref xt, .ref xk, .ref xr, .int (nI nt), .int (nI nk), .int (nI nr), .ref xu, .ref xv, .ref xb, .ref xw, .ref xo, .ref xl, .ref xp, .ref yr, .ref ys, .ref yw, .ref yt, .ref yl, .ref yc, .int (nI wd)])), (xt, .inl (k 0, 65536, .inl (by_ (rFd p0 p1 p2 p3 p4 ft nt i))))] ∧ va_S A s.heap H locs ∧ lv_has ls 8 [(6, .int (nI i)), (0, .ref mo), (1, .int p0), (2, .int p1), (3, .int p2), (4, .int p3), (5, .int p4)]) 20 0 ⟨hP, hD, hS, lv_sub hl [0, 1, 2, 3, 4, 5, 6] rfl⟩ (by omega) (fun i H locs ls lt_i ⟨hP, hD, hS, hl⟩ ih => ?_) (fun H locs ls ⟨hP, hD, hS, hl⟩ => ?_)
  · skip
    refine lv_iload hx hb dMd_feed_23 (lv_at hl 0 rfl) ?_
    refine lv_bipush (v := nI 20) hx hb dMd_feed_25 (by decide) ?_
    refine ri_ge (tgt := 109) hx hb dMd_feed_27 (by decide) (by omega) (by omega) (fun c_27 => absurd c_27 (by omega)) (fun c_27 => ?_)
    refine lv_iload hx hb dMd_feed_30 (lv_at hl 0 rfl) ?_
    refine lv_iconst (v := nI 4) hx hb dMd_feed_32 (by decide) ?_
    refine ri_ge (tgt := 40) hx hb dMd_feed_33 (by decide) (by omega) (by omega) (fun c_33 => ?_) (fun c_33 => ?_)
    · skip
      refine lv_iload hx hb dMd_feed_40 (lv_at hl 0 rfl) ?_
      refine lv_bipush (v := nI 8) hx hb dMd_feed_42 (by decide) ?_
      refine ri_ge (tgt := 51) hx hb dMd_feed_44 (by decide) (by omega) (by omega) (fun c_44 => ?_) (fun c_44 => ?_)
      · skip
        refine lv_iload hx hb dMd_feed_51 (lv_at hl 0 rfl) ?_
        refine lv_bipush (v := nI 12) hx hb dMd_feed_53 (by decide) ?_
        refine ri_ge (tgt := 62) hx hb dMd_feed_55 (by decide) (by omega) (by omega) (fun c_55 => ?_) (fun c_55 => ?_)
        · skip
          refine lv_iload hx hb dMd_feed_62 (lv_at hl 0 rfl) ?_
          refine lv_bipush (v := nI 16) hx hb dMd_feed_64 (by decide) ?_
          refine ri_ge (tgt := 74) hx hb dMd_feed_66 (by decide) (by omega) (by omega) (fun c_66 => ?_) (fun c_66 => ?_)
          · skip
            refine lv_iload hx hb dMd_feed_74 (lv_at hl 6 rfl) ?_
            refine lv_istore (lv' := [(7, .int p4), (6, .int (nI i)), (0, .ref mo), (1, .int p0), (2, .int p1), (3, .int p2), (4, .int p3), (5, .int p4)]) hx hb dMd_feed_76 hl (by decide) rfl (fun ls hl => ?_)
            refine lv_aload_n hx hb dMd_feed_78 rfl (lv_at hl 2 rfl) ?_
            refine va_get (D := D) (ci := 5) (v := .ref xt) (C := R_Md) (T := T_Md) (N := 21) hx hb hts in_Md hown hK hP 0 rfl rfl 1 (by decide) (hts _ gm_526) (fun _ h9 => h9) rfl dMd_feed_79 ?_
            refine lv_aload_n hx hb dMd_feed_82 rfl (lv_at hl 2 rfl) ?_
            refine va_get (D := D) (ci := 5) (v := .int (nI nt)) (C := R_Md) (T := T_Md) (N := 21) hx hb hts in_Md hown hK hP 0 rfl rfl 4 (by decide) (hts _ gm_529) (fun _ h9 => h9) rfl dMd_feed_83 ?_
            refine lv_iload hx hb dMd_feed_86 (lv_at hl 1 rfl) ?_
            refine ri_add hx hb dMd_feed_88 ?_
            refine lv_iload hx hb dMd_feed_89 (lv_at hl 0 rfl) ?_
            refine lv_bipush (v := nI 8) hx hb dMd_feed_91 (by decide) ?_
            refine lv_iconst (v := nI 3) hx hb dMd_feed_93 (by decide) ?_
            refine lv_iload hx hb dMd_feed_94 (lv_at hl 1 rfl) ?_
            refine lv_iconst (v := nI 4) hx hb dMd_feed_96 (by decide) ?_
            refine ri_rem hx hb (by omega) (by omega) (by omega) dMd_feed_97 ?_
            refine ri_sub hx hb (by omega) dMd_feed_98 ?_
            refine ri_mul hx hb dMd_feed_99 ?_
            refine lv_ishr hx hb dMd_feed_100 ?_
            refine lv_i2b (v := (p4 >>> ((nI (8 * (3 - (i % 4)))) &&& 31)).toInt8.toInt32) hx hb dMd_feed_101 rfl ?_
            refine rb_st (z := (p4 >>> ((nI (8 * (3 - (i % 4)))) &&& 31)).toInt8) hx hb hK hP hD hS 1 0 rfl rfl (by omega) (by omega) dMd_feed_102 (fun H locs hP hD hS => ?_)
            have hP : va_P D vwCl [(mo, .inr (5, [.int (nI 0), .ref xt, .ref xk, .ref xr, .int (nI nt), .int (nI nk), .int (nI nr), .ref xu, .ref xv, .ref xb, .ref xw, .ref xo, .ref xl, .ref xp, .ref yr, .ref ys, .ref yw, .ref yt, .ref yl, .ref yc, .int (nI wd)])), (xt, .inl (k 0, 65536, .inl (by_ (va_up (rFd p0 p1 p2 p3 p4 ft nt i) (nt + i) ((p4 >>> ((nI (8 * (3 - (i % 4)))) &&& 31)).toInt8)))))] H := hP
            have hD : va_D A [(mo, .inr (5, [.int (nI 0), .ref xt, .ref xk, .ref xr, .int (nI nt), .int (nI nk), .int (nI nr), .ref xu, .ref xv, .ref xb, .ref xw, .ref xo, .ref xl, .ref xp, .ref yr, .ref ys, .ref yw, .ref yt, .ref yl, .ref yc, .int (nI wd)])), (xt, .inl (k 0, 65536, .inl (by_ (va_up (rFd p0 p1 p2 p3 p4 ft nt i) (nt + i) ((p4 >>> ((nI (8 * (3 - (i % 4)))) &&& 31)).toInt8)))))] := hD
            refine ri_inc (lv' := [(6, .int (nI (i + 1))), (7, .int p4), (0, .ref mo), (1, .int p0), (2, .int p1), (3, .int p2), (4, .int p3), (5, .int p4)]) (k := 1) (d := 1) hx hb dMd_feed_103 hl rfl (by decide) (by decide) rfl (fun ls hl => ?_)
            refine lv_goto (tgt := 23) hx hb dMd_feed_106 (by decide) ?_
            obtain ⟨hP, hD⟩ := wd_put hP hD 1 (y := (65536, .inl (by_ (rFd p0 p1 p2 p3 p4 ft nt (i + 1))))) rfl (wc_b (fun j _ => by show va_up _ _ ((p4 >>> _).toInt8) j = va_up _ _ ((rW p0 p1 p2 p3 p4 i >>> _).toInt8) j; rw [show rW p0 p1 p2 p3 p4 i = p4 from by unfold rW; (repeat' split) <;> first | rfl | omega]) _)
            have hP : va_P D vwCl [(mo, .inr (5, [.int (nI 0), .ref xt, .ref xk, .ref xr, .int (nI nt), .int (nI nk), .int (nI nr), .ref xu, .ref xv, .ref xb, .ref xw, .ref xo, .ref xl, .ref xp, .ref yr, .ref ys, .ref yw, .ref yt, .ref yl, .ref yc, .int (nI wd)])), (xt, .inl (k 0, 65536, .inl (by_ (rFd p0 p1 p2 p3 p4 ft nt (i + 1)))))] H := hP
            have hD : va_D A [(mo, .inr (5, [.int (nI 0), .ref xt, .ref xk, .ref xr, .int (nI nt), .int (nI nk), .int (nI nr), .ref xu, .ref xv, .ref xb, .ref xw, .ref xo, .ref xl, .ref xp, .ref yr, .ref ys, .ref yw, .ref yt, .ref yl, .ref yc, .int (nI wd)])), (xt, .inl (k 0, 65536, .inl (by_ (rFd p0 p1 p2 p3 p4 ft nt (i + 1)))))] := hD
            exact ih _ _ _ ⟨hP, hD, hS, lv_sub hl [0, 2, 3, 4, 5, 6, 7] rfl⟩
          · skip
            refine lv_iload hx hb dMd_feed_69 (lv_at hl 5 rfl) ?_
            refine lv_goto (tgt := 76) hx hb dMd_feed_71 (by decide) ?_
            refine lv_istore (lv' := [(7, .int p3), (6, .int (nI i)), (0, .ref mo), (1, .int p0), (2, .int p1), (3, .int p2), (4, .int p3), (5, .int p4)]) hx hb dMd_feed_76 hl (by decide) rfl (fun ls hl => ?_)
            refine lv_aload_n hx hb dMd_feed_78 rfl (lv_at hl 2 rfl) ?_
            refine va_get (D := D) (ci := 5) (v := .ref xt) (C := R_Md) (T := T_Md) (N := 21) hx hb hts in_Md hown hK hP 0 rfl rfl 1 (by decide) (hts _ gm_526) (fun _ h9 => h9) rfl dMd_feed_79 ?_
            refine lv_aload_n hx hb dMd_feed_82 rfl (lv_at hl 2 rfl) ?_
            refine va_get (D := D) (ci := 5) (v := .int (nI nt)) (C := R_Md) (T := T_Md) (N := 21) hx hb hts in_Md hown hK hP 0 rfl rfl 4 (by decide) (hts _ gm_529) (fun _ h9 => h9) rfl dMd_feed_83 ?_
            refine lv_iload hx hb dMd_feed_86 (lv_at hl 1 rfl) ?_
            refine ri_add hx hb dMd_feed_88 ?_
            refine lv_iload hx hb dMd_feed_89 (lv_at hl 0 rfl) ?_
            refine lv_bipush (v := nI 8) hx hb dMd_feed_91 (by decide) ?_
            refine lv_iconst (v := nI 3) hx hb dMd_feed_93 (by decide) ?_
            refine lv_iload hx hb dMd_feed_94 (lv_at hl 1 rfl) ?_
            refine lv_iconst (v := nI 4) hx hb dMd_feed_96 (by decide) ?_
            refine ri_rem hx hb (by omega) (by omega) (by omega) dMd_feed_97 ?_
            refine ri_sub hx hb (by omega) dMd_feed_98 ?_
            refine ri_mul hx hb dMd_feed_99 ?_
            refine lv_ishr hx hb dMd_feed_100 ?_
            refine lv_i2b (v := (p3 >>> ((nI (8 * (3 - (i % 4)))) &&& 31)).toInt8.toInt32) hx hb dMd_feed_101 rfl ?_
            refine rb_st (z := (p3 >>> ((nI (8 * (3 - (i % 4)))) &&& 31)).toInt8) hx hb hK hP hD hS 1 0 rfl rfl (by omega) (by omega) dMd_feed_102 (fun H locs hP hD hS => ?_)
            have hP : va_P D vwCl [(mo, .inr (5, [.int (nI 0), .ref xt, .ref xk, .ref xr, .int (nI nt), .int (nI nk), .int (nI nr), .ref xu, .ref xv, .ref xb, .ref xw, .ref xo, .ref xl, .ref xp, .ref yr, .ref ys, .ref yw, .ref yt, .ref yl, .ref yc, .int (nI wd)])), (xt, .inl (k 0, 65536, .inl (by_ (va_up (rFd p0 p1 p2 p3 p4 ft nt i) (nt + i) ((p3 >>> ((nI (8 * (3 - (i % 4)))) &&& 31)).toInt8)))))] H := hP
            have hD : va_D A [(mo, .inr (5, [.int (nI 0), .ref xt, .ref xk, .ref xr, .int (nI nt), .int (nI nk), .int (nI nr), .ref xu, .ref xv, .ref xb, .ref xw, .ref xo, .ref xl, .ref xp, .ref yr, .ref ys, .ref yw, .ref yt, .ref yl, .ref yc, .int (nI wd)])), (xt, .inl (k 0, 65536, .inl (by_ (va_up (rFd p0 p1 p2 p3 p4 ft nt i) (nt + i) ((p3 >>> ((nI (8 * (3 - (i % 4)))) &&& 31)).toInt8)))))] := hD
            refine ri_inc (lv' := [(6, .int (nI (i + 1))), (7, .int p3), (0, .ref mo), (1, .int p0), (2, .int p1), (3, .int p2), (4, .int p3), (5, .int p4)]) (k := 1) (d := 1) hx hb dMd_feed_103 hl rfl (by decide) (by decide) rfl (fun ls hl => ?_)
            refine lv_goto (tgt := 23) hx hb dMd_feed_106 (by decide) ?_
            obtain ⟨hP, hD⟩ := wd_put hP hD 1 (y := (65536, .inl (by_ (rFd p0 p1 p2 p3 p4 ft nt (i + 1))))) rfl (wc_b (fun j _ => by show va_up _ _ ((p3 >>> _).toInt8) j = va_up _ _ ((rW p0 p1 p2 p3 p4 i >>> _).toInt8) j; rw [show rW p0 p1 p2 p3 p4 i = p3 from by unfold rW; (repeat' split) <;> first | rfl | omega]) _)
            have hP : va_P D vwCl [(mo, .inr (5, [.int (nI 0), .ref xt, .ref xk, .ref xr, .int (nI nt), .int (nI nk), .int (nI nr), .ref xu, .ref xv, .ref xb, .ref xw, .ref xo, .ref xl, .ref xp, .ref yr, .ref ys, .ref yw, .ref yt, .ref yl, .ref yc, .int (nI wd)])), (xt, .inl (k 0, 65536, .inl (by_ (rFd p0 p1 p2 p3 p4 ft nt (i + 1)))))] H := hP
            have hD : va_D A [(mo, .inr (5, [.int (nI 0), .ref xt, .ref xk, .ref xr, .int (nI nt), .int (nI nk), .int (nI nr), .ref xu, .ref xv, .ref xb, .ref xw, .ref xo, .ref xl, .ref xp, .ref yr, .ref ys, .ref yw, .ref yt, .ref yl, .ref yc, .int (nI wd)])), (xt, .inl (k 0, 65536, .inl (by_ (rFd p0 p1 p2 p3 p4 ft nt (i + 1)))))] := hD
            exact ih _ _ _ ⟨hP, hD, hS, lv_sub hl [0, 2, 3, 4, 5, 6, 7] rfl⟩
        · skip
          refine lv_iload_n hx hb dMd_feed_58 rfl (lv_at hl 4 rfl) ?_
          refine lv_goto (tgt := 76) hx hb dMd_feed_59 (by decide) ?_
          refine lv_istore (lv' := [(7, .int p2), (6, .int (nI i)), (0, .ref mo), (1, .int p0), (2, .int p1), (3, .int p2), (4, .int p3), (5, .int p4)]) hx hb dMd_feed_76 hl (by decide) rfl (fun ls hl => ?_)
          refine lv_aload_n hx hb dMd_feed_78 rfl (lv_at hl 2 rfl) ?_
          refine va_get (D := D) (ci := 5) (v := .ref xt) (C := R_Md) (T := T_Md) (N := 21) hx hb hts in_Md hown hK hP 0 rfl rfl 1 (by decide) (hts _ gm_526) (fun _ h9 => h9) rfl dMd_feed_79 ?_
          refine lv_aload_n hx hb dMd_feed_82 rfl (lv_at hl 2 rfl) ?_
          refine va_get (D := D) (ci := 5) (v := .int (nI nt)) (C := R_Md) (T := T_Md) (N := 21) hx hb hts in_Md hown hK hP 0 rfl rfl 4 (by decide) (hts _ gm_529) (fun _ h9 => h9) rfl dMd_feed_83 ?_
          refine lv_iload hx hb dMd_feed_86 (lv_at hl 1 rfl) ?_
          refine ri_add hx hb dMd_feed_88 ?_
          refine lv_iload hx hb dMd_feed_89 (lv_at hl 0 rfl) ?_
          refine lv_bipush (v := nI 8) hx hb dMd_feed_91 (by decide) ?_
          refine lv_iconst (v := nI 3) hx hb dMd_feed_93 (by decide) ?_
          refine lv_iload hx hb dMd_feed_94 (lv_at hl 1 rfl) ?_
          refine lv_iconst (v := nI 4) hx hb dMd_feed_96 (by decide) ?_
          refine ri_rem hx hb (by omega) (by omega) (by omega) dMd_feed_97 ?_
          refine ri_sub hx hb (by omega) dMd_feed_98 ?_
          refine ri_mul hx hb dMd_feed_99 ?_
          refine lv_ishr hx hb dMd_feed_100 ?_
          refine lv_i2b (v := (p2 >>> ((nI (8 * (3 - (i % 4)))) &&& 31)).toInt8.toInt32) hx hb dMd_feed_101 rfl ?_
          refine rb_st (z := (p2 >>> ((nI (8 * (3 - (i % 4)))) &&& 31)).toInt8) hx hb hK hP hD hS 1 0 rfl rfl (by omega) (by omega) dMd_feed_102 (fun H locs hP hD hS => ?_)
          have hP : va_P D vwCl [(mo, .inr (5, [.int (nI 0), .ref xt, .ref xk, .ref xr, .int (nI nt), .int (nI nk), .int (nI nr), .ref xu, .ref xv, .ref xb, .ref xw, .ref xo, .ref xl, .ref xp, .ref yr, .ref ys, .ref yw, .ref yt, .ref yl, .ref yc, .int (nI wd)])), (xt, .inl (k 0, 65536, .inl (by_ (va_up (rFd p0 p1 p2 p3 p4 ft nt i) (nt + i) ((p2 >>> ((nI (8 * (3 - (i % 4)))) &&& 31)).toInt8)))))] H := hP
          have hD : va_D A [(mo, .inr (5, [.int (nI 0), .ref xt, .ref xk, .ref xr, .int (nI nt), .int (nI nk), .int (nI nr), .ref xu, .ref xv, .ref xb, .ref xw, .ref xo, .ref xl, .ref xp, .ref yr, .ref ys, .ref yw, .ref yt, .ref yl, .ref yc, .int (nI wd)])), (xt, .inl (k 0, 65536, .inl (by_ (va_up (rFd p0 p1 p2 p3 p4 ft nt i) (nt + i) ((p2 >>> ((nI (8 * (3 - (i % 4)))) &&& 31)).toInt8)))))] := hD
          refine ri_inc (lv' := [(6, .int (nI (i + 1))), (7, .int p2), (0, .ref mo), (1, .int p0), (2, .int p1), (3, .int p2), (4, .int p3), (5, .int p4)]) (k := 1) (d := 1) hx hb dMd_feed_103 hl rfl (by decide) (by decide) rfl (fun ls hl => ?_)
          refine lv_goto (tgt := 23) hx hb dMd_feed_106 (by decide) ?_
          obtain ⟨hP, hD⟩ := wd_put hP hD 1 (y := (65536, .inl (by_ (rFd p0 p1 p2 p3 p4 ft nt (i + 1))))) rfl (wc_b (fun j _ => by show va_up _ _ ((p2 >>> _).toInt8) j = va_up _ _ ((rW p0 p1 p2 p3 p4 i >>> _).toInt8) j; rw [show rW p0 p1 p2 p3 p4 i = p2 from by unfold rW; (repeat' split) <;> first | rfl | omega]) _)
          have hP : va_P D vwCl [(mo, .inr (5, [.int (nI 0), .ref xt, .ref xk, .ref xr, .int (nI nt), .int (nI nk), .int (nI nr), .ref xu, .ref xv, .ref xb, .ref xw, .ref xo, .ref xl, .ref xp, .ref yr, .ref ys, .ref yw, .ref yt, .ref yl, .ref yc, .int (nI wd)])), (xt, .inl (k 0, 65536, .inl (by_ (rFd p0 p1 p2 p3 p4 ft nt (i + 1)))))] H := hP
          have hD : va_D A [(mo, .inr (5, [.int (nI 0), .ref xt, .ref xk, .ref xr, .int (nI nt), .int (nI nk), .int (nI nr), .ref xu, .ref xv, .ref xb, .ref xw, .ref xo, .ref xl, .ref xp, .ref yr, .ref ys, .ref yw, .ref yt, .ref yl, .ref yc, .int (nI wd)])), (xt, .inl (k 0, 65536, .inl (by_ (rFd p0 p1 p2 p3 p4 ft nt (i + 1)))))] := hD
          exact ih _ _ _ ⟨hP, hD, hS, lv_sub hl [0, 2, 3, 4, 5, 6, 7] rfl⟩
      · skip
        refine lv_iload_n hx hb dMd_feed_47 rfl (lv_at hl 3 rfl) ?_
        refine lv_goto (tgt := 76) hx hb dMd_feed_48 (by decide) ?_
        refine lv_istore (lv' := [(7, .int p1), (6, .int (nI i)), (0, .ref mo), (1, .int p0), (2, .int p1), (3, .int p2), (4, .int p3), (5, .int p4)]) hx hb dMd_feed_76 hl (by decide) rfl (fun ls hl => ?_)
        refine lv_aload_n hx hb dMd_feed_78 rfl (lv_at hl 2 rfl) ?_
        refine va_get (D := D) (ci := 5) (v := .ref xt) (C := R_Md) (T := T_Md) (N := 21) hx hb hts in_Md hown hK hP 0 rfl rfl 1 (by decide) (hts _ gm_526) (fun _ h9 => h9) rfl dMd_feed_79 ?_
        refine lv_aload_n hx hb dMd_feed_82 rfl (lv_at hl 2 rfl) ?_
        refine va_get (D := D) (ci := 5) (v := .int (nI nt)) (C := R_Md) (T := T_Md) (N := 21) hx hb hts in_Md hown hK hP 0 rfl rfl 4 (by decide) (hts _ gm_529) (fun _ h9 => h9) rfl dMd_feed_83 ?_
        refine lv_iload hx hb dMd_feed_86 (lv_at hl 1 rfl) ?_
        refine ri_add hx hb dMd_feed_88 ?_
        refine lv_iload hx hb dMd_feed_89 (lv_at hl 0 rfl) ?_
        refine lv_bipush (v := nI 8) hx hb dMd_feed_91 (by decide) ?_
        refine lv_iconst (v := nI 3) hx hb dMd_feed_93 (by decide) ?_
        refine lv_iload hx hb dMd_feed_94 (lv_at hl 1 rfl) ?_
        refine lv_iconst (v := nI 4) hx hb dMd_feed_96 (by decide) ?_
        refine ri_rem hx hb (by omega) (by omega) (by omega) dMd_feed_97 ?_
        refine ri_sub hx hb (by omega) dMd_feed_98 ?_
        refine ri_mul hx hb dMd_feed_99 ?_
        refine lv_ishr hx hb dMd_feed_100 ?_
        refine lv_i2b (v := (p1 >>> ((nI (8 * (3 - (i % 4)))) &&& 31)).toInt8.toInt32) hx hb dMd_feed_101 rfl ?_
        refine rb_st (z := (p1 >>> ((nI (8 * (3 - (i % 4)))) &&& 31)).toInt8) hx hb hK hP hD hS 1 0 rfl rfl (by omega) (by omega) dMd_feed_102 (fun H locs hP hD hS => ?_)
        have hP : va_P D vwCl [(mo, .inr (5, [.int (nI 0), .ref xt, .ref xk, .ref xr, .int (nI nt), .int (nI nk), .int (nI nr), .ref xu, .ref xv, .ref xb, .ref xw, .ref xo, .ref xl, .ref xp, .ref yr, .ref ys, .ref yw, .ref yt, .ref yl, .ref yc, .int (nI wd)])), (xt, .inl (k 0, 65536, .inl (by_ (va_up (rFd p0 p1 p2 p3 p4 ft nt i) (nt + i) ((p1 >>> ((nI (8 * (3 - (i % 4)))) &&& 31)).toInt8)))))] H := hP
        have hD : va_D A [(mo, .inr (5, [.int (nI 0), .ref xt, .ref xk, .ref xr, .int (nI nt), .int (nI nk), .int (nI nr), .ref xu, .ref xv, .ref xb, .ref xw, .ref xo, .ref xl, .ref xp, .ref yr, .ref ys, .ref yw, .ref yt, .ref yl, .ref yc, .int (nI wd)])), (xt, .inl (k 0, 65536, .inl (by_ (va_up (rFd p0 p1 p2 p3 p4 ft nt i) (nt + i) ((p1 >>> ((nI (8 * (3 - (i % 4)))) &&& 31)).toInt8)))))] := hD
        refine ri_inc (lv' := [(6, .int (nI (i + 1))), (7, .int p1), (0, .ref mo), (1, .int p0), (2, .int p1), (3, .int p2), (4, .int p3), (5, .int p4)]) (k := 1) (d := 1) hx hb dMd_feed_103 hl rfl (by decide) (by decide) rfl (fun ls hl => ?_)
        refine lv_goto (tgt := 23) hx hb dMd_feed_106 (by decide) ?_
        obtain ⟨hP, hD⟩ := wd_put hP hD 1 (y := (65536, .inl (by_ (rFd p0 p1 p2 p3 p4 ft nt (i + 1))))) rfl (wc_b (fun j _ => by show va_up _ _ ((p1 >>> _).toInt8) j = va_up _ _ ((rW p0 p1 p2 p3 p4 i >>> _).toInt8) j; rw [show rW p0 p1 p2 p3 p4 i = p1 from by unfold rW; (repeat' split) <;> first | rfl | omega]) _)
        have hP : va_P D vwCl [(mo, .inr (5, [.int (nI 0), .ref xt, .ref xk, .ref xr, .int (nI nt), .int (nI nk), .int (nI nr), .ref xu, .ref xv, .ref xb, .ref xw, .ref xo, .ref xl, .ref xp, .ref yr, .ref ys, .ref yw, .ref yt, .ref yl, .ref yc, .int (nI wd)])), (xt, .inl (k 0, 65536, .inl (by_ (rFd p0 p1 p2 p3 p4 ft nt (i + 1)))))] H := hP
        have hD : va_D A [(mo, .inr (5, [.int (nI 0), .ref xt, .ref xk, .ref xr, .int (nI nt), .int (nI nk), .int (nI nr), .ref xu, .ref xv, .ref xb, .ref xw, .ref xo, .ref xl, .ref xp, .ref yr, .ref ys, .ref yw, .ref yt, .ref yl, .ref yc, .int (nI wd)])), (xt, .inl (k 0, 65536, .inl (by_ (rFd p0 p1 p2 p3 p4 ft nt (i + 1)))))] := hD
        exact ih _ _ _ ⟨hP, hD, hS, lv_sub hl [0, 2, 3, 4, 5, 6, 7] rfl⟩
    · skip
      refine lv_iload_n hx hb dMd_feed_36 rfl (lv_at hl 2 rfl) ?_
      refine lv_goto (tgt := 76) hx hb dMd_feed_37 (by decide) ?_
      refine lv_istore (lv' := [(7, .int p0), (6, .int (nI i)), (0, .ref mo), (1, .int p0), (2, .int p1), (3, .int p2), (4, .int p3), (5, .int p4)]) hx hb dMd_feed_76 hl (by decide) rfl (fun ls hl => ?_)
      refine lv_aload_n hx hb dMd_feed_78 rfl (lv_at hl 2 rfl) ?_
      refine va_get (D := D) (ci := 5) (v := .ref xt) (C := R_Md) (T := T_Md) (N := 21) hx hb hts in_Md hown hK hP 0 rfl rfl 1 (by decide) (hts _ gm_526) (fun _ h9 => h9) rfl dMd_feed_79 ?_
      refine lv_aload_n hx hb dMd_feed_82 rfl (lv_at hl 2 rfl) ?_
      refine va_get (D := D) (ci := 5) (v := .int (nI nt)) (C := R_Md) (T := T_Md) (N := 21) hx hb hts in_Md hown hK hP 0 rfl rfl 4 (by decide) (hts _ gm_529) (fun _ h9 => h9) rfl dMd_feed_83 ?_
      refine lv_iload hx hb dMd_feed_86 (lv_at hl 1 rfl) ?_
      refine ri_add hx hb dMd_feed_88 ?_
      refine lv_iload hx hb dMd_feed_89 (lv_at hl 0 rfl) ?_
      refine lv_bipush (v := nI 8) hx hb dMd_feed_91 (by decide) ?_
      refine lv_iconst (v := nI 3) hx hb dMd_feed_93 (by decide) ?_
      refine lv_iload hx hb dMd_feed_94 (lv_at hl 1 rfl) ?_
      refine lv_iconst (v := nI 4) hx hb dMd_feed_96 (by decide) ?_
      refine ri_rem hx hb (by omega) (by omega) (by omega) dMd_feed_97 ?_
      refine ri_sub hx hb (by omega) dMd_feed_98 ?_
      refine ri_mul hx hb dMd_feed_99 ?_
      refine lv_ishr hx hb dMd_feed_100 ?_
      refine lv_i2b (v := (p0 >>> ((nI (8 * (3 - (i % 4)))) &&& 31)).toInt8.toInt32) hx hb dMd_feed_101 rfl ?_
      refine rb_st (z := (p0 >>> ((nI (8 * (3 - (i % 4)))) &&& 31)).toInt8) hx hb hK hP hD hS 1 0 rfl rfl (by omega) (by omega) dMd_feed_102 (fun H locs hP hD hS => ?_)
      have hP : va_P D vwCl [(mo, .inr (5, [.int (nI 0), .ref xt, .ref xk, .ref xr, .int (nI nt), .int (nI nk), .int (nI nr), .ref xu, .ref xv, .ref xb, .ref xw, .ref xo, .ref xl, .ref xp, .ref yr, .ref ys, .ref yw, .ref yt, .ref yl, .ref yc, .int (nI wd)])), (xt, .inl (k 0, 65536, .inl (by_ (va_up (rFd p0 p1 p2 p3 p4 ft nt i) (nt + i) ((p0 >>> ((nI (8 * (3 - (i % 4)))) &&& 31)).toInt8)))))] H := hP
      have hD : va_D A [(mo, .inr (5, [.int (nI 0), .ref xt, .ref xk, .ref xr, .int (nI nt), .int (nI nk), .int (nI nr), .ref xu, .ref xv, .ref xb, .ref xw, .ref xo, .ref xl, .ref xp, .ref yr, .ref ys, .ref yw, .ref yt, .ref yl, .ref yc, .int (nI wd)])), (xt, .inl (k 0, 65536, .inl (by_ (va_up (rFd p0 p1 p2 p3 p4 ft nt i) (nt + i) ((p0 >>> ((nI (8 * (3 - (i % 4)))) &&& 31)).toInt8)))))] := hD
      refine ri_inc (lv' := [(6, .int (nI (i + 1))), (7, .int p0), (0, .ref mo), (1, .int p0), (2, .int p1), (3, .int p2), (4, .int p3), (5, .int p4)]) (k := 1) (d := 1) hx hb dMd_feed_103 hl rfl (by decide) (by decide) rfl (fun ls hl => ?_)
      refine lv_goto (tgt := 23) hx hb dMd_feed_106 (by decide) ?_
      obtain ⟨hP, hD⟩ := wd_put hP hD 1 (y := (65536, .inl (by_ (rFd p0 p1 p2 p3 p4 ft nt (i + 1))))) rfl (wc_b (fun j _ => by show va_up _ _ ((p0 >>> _).toInt8) j = va_up _ _ ((rW p0 p1 p2 p3 p4 i >>> _).toInt8) j; rw [show rW p0 p1 p2 p3 p4 i = p0 from by unfold rW; (repeat' split) <;> first | rfl | omega]) _)
      have hP : va_P D vwCl [(mo, .inr (5, [.int (nI 0), .ref xt, .ref xk, .ref xr, .int (nI nt), .int (nI nk), .int (nI nr), .ref xu, .ref xv, .ref xb, .ref xw, .ref xo, .ref xl, .ref xp, .ref yr, .ref ys, .ref yw, .ref yt, .ref yl, .ref yc, .int (nI wd)])), (xt, .inl (k 0, 65536, .inl (by_ (rFd p0 p1 p2 p3 p4 ft nt (i + 1)))))] H := hP
      have hD : va_D A [(mo, .inr (5, [.int (nI 0), .ref xt, .ref xk, .ref xr, .int (nI nt), .int (nI nk), .int (nI nr), .ref xu, .ref xv, .ref xb, .ref xw, .ref xo, .ref xl, .ref xp, .ref yr, .ref ys, .ref yw, .ref yt, .ref yl, .ref yc, .int (nI wd)])), (xt, .inl (k 0, 65536, .inl (by_ (rFd p0 p1 p2 p3 p4 ft nt (i + 1)))))] := hD
      exact ih _ _ _ ⟨hP, hD, hS, lv_sub hl [0, 2, 3, 4, 5, 6, 7] rfl⟩
  · skip
    refine lv_iload hx hb dMd_feed_23 (lv_at hl 0 rfl) ?_
    refine lv_bipush (v := nI 20) hx hb dMd_feed_25 (by decide) ?_
    refine ri_ge (tgt := 109) hx hb dMd_feed_27 (by decide) (by omega) (by omega) (fun c_27 => ?_) (fun c_27 => absurd c_27 (by omega))
    refine lv_aload_n hx hb dMd_feed_109 rfl (lv_at hl 1 rfl) ?_
    refine lv_dup hx hb dMd_feed_110 rfl ?_
    refine va_get (D := D) (ci := 5) (v := .int (nI nt)) (C := R_Md) (T := T_Md) (N := 21) hx hb hts in_Md hown hK hP 0 rfl rfl 4 (by decide) (hts _ gm_529) (fun _ h9 => h9) rfl dMd_feed_111 ?_
    refine lv_bipush (v := nI 20) hx hb dMd_feed_114 (by decide) ?_
    refine ri_add hx hb dMd_feed_116 ?_
    refine va_put (D := D) (ci := 5) (v := .int (nI (nt + 20))) (ty := .int) (C := R_Md) (T := T_Md) (N := 21) hx hb hts in_Md t_Md tk_Md nm_Md hown hK hP hD hS 0 rfl rfl 4 (by decide) (hts _ gm_529) (fun _ h9 => h9) rfl (by decide +kernel) rfl rfl (Nat.le_of_ble_eq_true rfl) dMd_feed_117 (fun H locs hP hD hS => ?_)
    have hP : va_P D vwCl [(mo, .inr (5, [.int (nI 0), .ref xt, .ref xk, .ref xr, .int (nI (nt + 20)), .int (nI nk), .int (nI nr), .ref xu, .ref xv, .ref xb, .ref xw, .ref xo, .ref xl, .ref xp, .ref yr, .ref ys, .ref yw, .ref yt, .ref yl, .ref yc, .int (nI wd)])), (xt, .inl (k 0, 65536, .inl (by_ (rFd p0 p1 p2 p3 p4 ft nt 20))))] H := hP
    have hD : va_D A [(mo, .inr (5, [.int (nI 0), .ref xt, .ref xk, .ref xr, .int (nI (nt + 20)), .int (nI nk), .int (nI nr), .ref xu, .ref xv, .ref xb, .ref xw, .ref xo, .ref xl, .ref xp, .ref yr, .ref ys, .ref yw, .ref yt, .ref yl, .ref yc, .int (nI wd)])), (xt, .inl (k 0, 65536, .inl (by_ (rFd p0 p1 p2 p3 p4 ft nt 20))))] := hD
    refine lv_aload_n hx hb dMd_feed_120 rfl (lv_at hl 1 rfl) ?_
    refine va_get (D := D) (ci := 5) (v := .int (nI (nt + 20))) (C := R_Md) (T := T_Md) (N := 21) hx hb hts in_Md hown hK hP 0 rfl rfl 4 (by decide) (hts _ gm_529) (fun _ h9 => h9) rfl dMd_feed_121 ?_
    refine W.widen (k := 0) (n := 0) (Nat.le_refl _) (Nat.le_refl _) ?_
    exact W.iret (v := nI (nt + 20)) hx hb hr (fun t ht hW => ⟨⟨nI (nt + 20), (), rfl, rfl, by rw [ht]; exact hP, hD⟩, hS.F ht⟩) hS.2.2 dMd_feed_124
