/-! DigestBox: the calls that need no hash -/
def wBx_init : List Cond := .code yBx_init cBx_init 1 none :: GT
def wBx_blocksOf : List Cond := .code yBx_blocksOf cBx_blocksOf 2 (some .int) :: GT
def wBx_checkExpandedLength : List Cond := .code yBx_checkExpandedLength cBx_checkExpandedLength 3 none :: GT
def wBx_checkKind : List Cond := .code yBx_checkKind cBx_checkKind 1 none :: GT
def wBx_checkLabelLength : List Cond := .code yBx_checkLabelLength cBx_checkLabelLength 2 none :: GT
def wBx_count : List Cond := .code yBx_count cBx_count 2 (some .int) :: GT
def wBx_end : List Cond := .code yBx_end cBx_end 2 (some .int) :: GT
def wBx_expand : List Cond := .code yBx_expand cBx_expand 3 (some .int) :: GT
def wBx_expandKey : List Cond := .code yBx_expandKey cBx_expandKey 8 none :: GT
def wBx_expandLabel : List Cond := .code yBx_expandLabel cBx_expandLabel 4 (some .int) :: GT
def wBx_feed : List Cond := .code yBx_feed cBx_feed 6 (some .int) :: GT
def wBx_hmac : List Cond := .code yBx_hmac cBx_hmac 3 (some .int) :: GT
def wBx_keep : List Cond := .code yBx_keep cBx_keep 1 (some .int) :: GT
def wBx_key : List Cond := .code yBx_key cBx_key 1 (some .int) :: GT
def wBx_more : List Cond := .code yBx_more cBx_more 2 (some .long) :: GT
def wBx_peek : List Cond := .code yBx_peek cBx_peek 3 (some .int) :: GT
def wBx_restart : List Cond := .code yBx_restart cBx_restart 2 none :: GT
def wBx_result : List Cond := .code yBx_result cBx_result 2 (some .int) :: GT
def wBx_roomForResult : List Cond := .code yBx_roomForResult cBx_roomForResult 2 (some (.array .byte)) :: GT
def wBx_writeLabelInfo : List Cond := .code yBx_writeLabelInfo cBx_writeLabelInfo 4 none :: GT
set_option maxHeartbeats 600000 in
set_option maxRecDepth 100000 in
theorem c_checkKind (l : Launch) (D : va_G) (k : Nat → ClassId) (tb : Nat → Nat) (sz : Nat) (kd : Nat) (hkd : kd < 3) : Met l yBx_checkKind wBx_checkKind ({ frames := 0, cells := 0, slots := 0, locals := 0 }) (cP D k tb [] sz [.int (nI kd)]) (va_Qv (fun (u : Unit) => True) (fun (u : Unit) (t : State) => va_P D vwCl [] t.heap ∧ va_D (va_A [] sz) []) (va_A [] sz)) (0) (0) (va_A [] sz) := by
  refine Met.ofW (cc := cBx_checkKind) (maxL := 1) (ret := none) (by decide) rfl ?_
  intro p e s m args below meth c s₁ B hml hv
  obtain ⟨rfl, hsz, hP, hK, hD0, hG⟩ := hv
  have hx := B.exec
  have hb := B.bytes
  have hr := B.returns
  have hts : ∀ w ∈ GT, w.before _ s = true := fun w h => atoms_spec (ws := wBx_checkKind) B.pre w (List.mem_cons_of_mem _ h)
  have hown : s.vm.findClass R_Bx = some m.cls := findClass_of_methodNamed B.named
  have hlocks := B.notSynchronized
  subst hsz
  have hD := hD0.self (sz := s.heap.size)
  generalize hAe : va_A [] s.heap.size = A at hD hG ⊢
  have hA : ∀ q : Nat, s.heap.size ≤ q → A q := fun q h => by rw [← hAe]; exact Or.inr h
  have hl := lv_entry ([.int (nI kd)]) (n := 1) (Nat.le_of_ble_eq_true rfl)
  rw [lg_entry_eq]
  generalize (lg_sl ([.int (nI kd)]) ++ List.replicate (1 - (lg_sl ([.int (nI kd)])).length) Slot.unset).toArray = ls at hl ⊢
  have hl : lv_has ls 1 [(0, .int (nI kd))] := hl
  refine cw_start (A := A) hP (fun H locs hP hS => ?_)
  refine lv_iload_n hx hb dBx_checkKind_0 rfl (lv_at hl 0 rfl) ?_
  refine rz_lt (tgt := 9) hx hb dBx_checkKind_1 (by decide) (by omega) ?_
  refine lv_iload_n hx hb dBx_checkKind_4 rfl (lv_at hl 0 rfl) ?_
  refine lv_iconst (v := nI 3) hx hb dBx_checkKind_5 (by decide) ?_
  refine ri_lt (tgt := 17) hx hb dBx_checkKind_6 (by decide) (by omega) (by omega) (fun c_6 => ?_) (fun c_6 => absurd c_6 (by omega))
  refine W.widen (k := 0) (n := 0) (Nat.le_refl _) (Nat.le_refl _) ?_
  exact W.vret hx hb hr (fun t ht hW => ⟨⟨(), rfl, trivial, by rw [ht]; exact hP, hD⟩, hS.F ht⟩) hS.2.2 dBx_checkKind_17
set_option maxHeartbeats 600000 in
set_option maxRecDepth 100000 in
theorem c_roomForResult (l : Launch) (D : va_G) (k : Nat → ClassId) (tb : Nat → Nat) (sz : Nat) (bx rt rs ro ri ra ma : Nat) (bo no co : Nat) (fo : Nat → Int8) (ho0 : 0 < co) (ho1 : co ≤ 100000) (ho2 : no ≤ co) (n : Nat) (hn : n ≤ 100000) : Met l yBx_roomForResult wBx_roomForResult ({ frames := 3, cells := gc co n - co, slots := 2 * (gc co n - co), locals := 103 }) (cP D k tb [(bx, .inr (4, [.ref rt, .ref rs, .ref ro, .ref ri, .ref ra, .ref ma])), (ro, .inr (2, [.ref bo, .int (nI no)])), (bo, .inl (k 0, co, .inl (by_ fo)))] sz [.ref bx, .int (nI n)]) (va_Qr (fun (u : Nat → Int8) => ∀ j, j < co → u j = fo j) (fun (u : Nat → Int8) (a9 : Nat) (t : State) => va_P D vwCl [(bx, .inr (4, [.ref rt, .ref rs, .ref ro, .ref ri, .ref ra, .ref ma])), (ro, .inr (2, [.ref a9, .int (nI n)])), (a9, .inl (k 0, gc co n, .inl (by_ u)))] t.heap ∧ va_D (va_A [(bx, .inr (4, [.ref rt, .ref rs, .ref ro, .ref ri, .ref ra, .ref ma])), (ro, .inr (2, [.ref bo, .int (nI no)])), (bo, .inl (k 0, co, .inl (by_ fo)))] sz) [(bx, .inr (4, [.ref rt, .ref rs, .ref ro, .ref ri, .ref ra, .ref ma])), (ro, .inr (2, [.ref a9, .int (nI n)])), (a9, .inl (k 0, gc co n, .inl (by_ u)))]) (va_A [(bx, .inr (4, [.ref rt, .ref rs, .ref ro, .ref ri, .ref ra, .ref ma])), (ro, .inr (2, [.ref bo, .int (nI no)])), (bo, .inl (k 0, co, .inl (by_ fo)))] sz)) (gc co n - co) (2 * (gc co n - co)) (va_A [(bx, .inr (4, [.ref rt, .ref rs, .ref ro, .ref ri, .ref ra, .ref ma])), (ro, .inr (2, [.ref bo, .int (nI no)])), (bo, .inl (k 0, co, .inl (by_ fo)))] sz) := by
  refine Met.ofW (cc := cBx_roomForResult) (maxL := 2) (ret := (some (.array .byte))) (by decide) rfl ?_
  intro p e s m args below meth c s₁ B hml hv
  obtain ⟨rfl, hsz, hP, hK, hD0, hG⟩ := hv
  have hx := B.exec
  have hb := B.bytes
  have hr := B.returns
  have hts : ∀ w ∈ GT, w.before _ s = true := fun w h => atoms_spec (ws := wBx_roomForResult) B.pre w (List.mem_cons_of_mem _ h)
  have hown : s.vm.findClass R_Bx = some m.cls := findClass_of_methodNamed B.named
  have hlocks := B.notSynchronized
  subst hsz
  have hD := hD0.self (sz := s.heap.size)
  generalize hAe : va_A [(bx, .inr (4, [.ref rt, .ref rs, .ref ro, .ref ri, .ref ra, .ref ma])), (ro, .inr (2, [.ref bo, .int (nI no)])), (bo, .inl (k 0, co, .inl (by_ fo)))] s.heap.size = A at hD hG ⊢
  have hA : ∀ q : Nat, s.heap.size ≤ q → A q := fun q h => by rw [← hAe]; exact Or.inr h
  have hl := lv_entry ([.ref bx, .int (nI n)]) (n := 2) (Nat.le_of_ble_eq_true rfl)
  rw [lg_entry_eq]
  generalize (lg_sl ([.ref bx, .int (nI n)]) ++ List.replicate (2 - (lg_sl ([.ref bx, .int (nI n)])).length) Slot.unset).toArray = ls at hl ⊢
  have hl : lv_has ls 2 [(0, .ref bx), (1, .int (nI n))] := hl
  refine cw_start (A := A) hP (fun H locs hP hS => ?_)
  refine lv_aload_n hx hb dBx_roomForResult_0 rfl (lv_at hl 0 rfl) ?_
  refine va_get (D := D) (ci := 4) (v := .ref ro) (C := R_Bx) (T := T_Bx) (N := 6) hx hb hts in_Bx hown hK hP 0 rfl rfl 2 (by decide) (hts _ gm_169) (fun _ h9 => h9) rfl dBx_roomForResult_1 ?_
  refine lv_iload_n hx hb dBx_roomForResult_4 rfl (lv_at hl 1 rfl) ?_
  refine rc_v (wr := [(bx, .inr (4, [.ref rt, .ref rs, .ref ro, .ref ri, .ref ra, .ref ma]))]) (va_runVN (As := [.int (nI n)]) (rest := []) ⟨hx, hb, hml, hown, hts⟩ (c_Row_makeRoom l D k tb H.size ro bo co no n fo ho0 (by omega) (by omega)) ⟨va_cnB 1 hts (gC gm_190) rfl rfl rfl (hG.1 _ gn_22) (hts _ gm_51) (by decide +kernel) ⟨Nat.le_of_ble_eq_true rfl, Nat.le_of_ble_eq_true rfl⟩, hts _ gm_189, hts _ gm_2⟩ (cP_V hP hD hK hG hS hA [1, 2] (by decide) rfl (ci := 2) (q0 := 1) rfl rfl) rfl rfl hl.1 rfl (lv_room (Nat.le_of_ble_eq_true rfl)) dBx_roomForResult_5 ⟨by show 0 + (gc co n - co) ≤ gc co n - co; omega, by show 0 + (2 * (gc co n - co)) ≤ 2 * (gc co n - co); omega⟩) hS hA hP hD [1, 2] [0] rfl rfl (by decide) (by decide) (fun u9 H locs hw hP hD hS => ?_)
  obtain ⟨b1, f1⟩ := u9
  have hP : va_P D vwCl [(bx, .inr (4, [.ref rt, .ref rs, .ref ro, .ref ri, .ref ra, .ref ma])), (ro, .inr (2, [.ref b1, .int (nI no)])), (b1, .inl (k 0, gc co n, .inl (by_ f1)))] H := hP
  have hD : va_D A [(bx, .inr (4, [.ref rt, .ref rs, .ref ro, .ref ri, .ref ra, .ref ma])), (ro, .inr (2, [.ref b1, .int (nI no)])), (b1, .inl (k 0, gc co n, .inl (by_ f1)))] := hD
  refine lv_aload_n hx hb dBx_roomForResult_8 rfl (lv_at hl 0 rfl) ?_
  refine va_get (D := D) (ci := 4) (v := .ref ro) (C := R_Bx) (T := T_Bx) (N := 6) hx hb hts in_Bx hown hK hP 0 rfl rfl 2 (by decide) (hts _ gm_169) (fun _ h9 => h9) rfl dBx_roomForResult_9 ?_
  refine lv_iload_n hx hb dBx_roomForResult_12 rfl (lv_at hl 1 rfl) ?_
  refine va_putN (D := D) (ci := 2) (v := .int (nI n)) (ty := .int) (C := R_Rw) (T := T_Rw) (N := 2) hx hb hts in_Rw t_Rw tk_Rw nm_Rw hown hK hP hD hS 1 rfl rfl 1 (by decide) (hG.nest gn_3 rfl) (fun _ h9 => h9) rfl (by decide +kernel) rfl rfl (Nat.le_of_ble_eq_true rfl) dBx_roomForResult_13 (fun H locs hP hD hS => ?_)
  have hP : va_P D vwCl [(bx, .inr (4, [.ref rt, .ref rs, .ref ro, .ref ri, .ref ra, .ref ma])), (ro, .inr (2, [.ref b1, .int (nI n)])), (b1, .inl (k 0, gc co n, .inl (by_ f1)))] H := hP
  have hD : va_D A [(bx, .inr (4, [.ref rt, .ref rs, .ref ro, .ref ri, .ref ra, .ref ma])), (ro, .inr (2, [.ref b1, .int (nI n)])), (b1, .inl (k 0, gc co n, .inl (by_ f1)))] := hD
  refine lv_aload_n hx hb dBx_roomForResult_16 rfl (lv_at hl 0 rfl) ?_
  refine va_get (D := D) (ci := 4) (v := .ref ro) (C := R_Bx) (T := T_Bx) (N := 6) hx hb hts in_Bx hown hK hP 0 rfl rfl 2 (by decide) (hts _ gm_169) (fun _ h9 => h9) rfl dBx_roomForResult_17 ?_
  refine va_getN (D := D) (ci := 2) (v := .ref b1) (C := R_Rw) (T := T_Rw) (N := 2) hx hb hts in_Rw hown hK hP 1 rfl rfl 0 (by decide) (hG.nest gn_2 rfl) (fun _ h9 => h9) rfl dBx_roomForResult_20 ?_
  refine W.widen (k := gc co n - co) (n := 2 * (gc co n - co)) (by omega) (by omega) ?_
  exact W.aret (v := .ref b1) hx hb hr (Or.inr ⟨_, rfl⟩) (Or.inr ⟨_, rfl⟩) (fun t ht hW => ⟨⟨f1, b1, rfl, hw, by rw [ht]; exact hP, hD⟩, hS.F ht⟩) hS.2.2 dBx_roomForResult_23
set_option maxHeartbeats 600000 in
set_option maxRecDepth 100000 in
theorem c_feed (l : Launch) (D : va_G) (k : Nat → ClassId) (tb : Nat → Nat) (sz : Nat) (bx rt rs ro ri ra ma : Nat) (bt nt ct : Nat) (ft : Nat → Int8) (ht0 : 0 < ct) (ht1 : ct ≤ 100000) (ht2 : nt ≤ ct) (p0 p1 p2 p3 p4 : Int32) (hnt : nt < 20000) : Met l yBx_feed wBx_feed ({ frames := 5, cells := gcs ct nt 20 - ct, slots := 2 * (gcs ct nt 20 - ct), locals := 145 }) (cP D k tb [(bx, .inr (4, [.ref rt, .ref rs, .ref ro, .ref ri, .ref ra, .ref ma])), (rt, .inr (2, [.ref bt, .int (nI nt)])), (bt, .inl (k 0, ct, .inl (by_ ft)))] sz [.ref bx, .int p0, .int p1, .int p2, .int p3, .int p4]) (va_Qi (fun (r : Int32) (u : Nat × (Nat → Int8)) => r = nI (nt + 20) ∧ ((∀ j, j < nt → u.2 j = ft j) ∧ ∀ i, i < 20 → u.2 (nt + i) = fdF p0 p1 p2 p3 p4 i)) (fun (u : Nat × (Nat → Int8)) (t : State) => va_P D vwCl [(bx, .inr (4, [.ref rt, .ref rs, .ref ro, .ref ri, .ref ra, .ref ma])), (rt, .inr (2, [.ref u.1, .int (nI (nt + 20))])), (u.1, .inl (k 0, gcs ct nt 20, .inl (by_ u.2)))] t.heap ∧ va_D (va_A [(bx, .inr (4, [.ref rt, .ref rs, .ref ro, .ref ri, .ref ra, .ref ma])), (rt, .inr (2, [.ref bt, .int (nI nt)])), (bt, .inl (k 0, ct, .inl (by_ ft)))] sz) [(bx, .inr (4, [.ref rt, .ref rs, .ref ro, .ref ri, .ref ra, .ref ma])), (rt, .inr (2, [.ref u.1, .int (nI (nt + 20))])), (u.1, .inl (k 0, gcs ct nt 20, .inl (by_ u.2)))]) (va_A [(bx, .inr (4, [.ref rt, .ref rs, .ref ro, .ref ri, .ref ra, .ref ma])), (rt, .inr (2, [.ref bt, .int (nI nt)])), (bt, .inl (k 0, ct, .inl (by_ ft)))] sz)) (gcs ct nt 20 - ct) (2 * (gcs ct nt 20 - ct)) (va_A [(bx, .inr (4, [.ref rt, .ref rs, .ref ro, .ref ri, .ref ra, .ref ma])), (rt, .inr (2, [.ref bt, .int (nI nt)])), (bt, .inl (k 0, ct, .inl (by_ ft)))] sz) := by
  refine Met.ofW (cc := cBx_feed) (maxL := 6) (ret := (some .int)) (by decide) rfl ?_
  intro p e s m args below meth c s₁ B hml hv
  obtain ⟨rfl, hsz, hP, hK, hD0, hG⟩ := hv
  have hx := B.exec
  have hb := B.bytes
  have hr := B.returns
  have hts : ∀ w ∈ GT, w.before _ s = true := fun w h => atoms_spec (ws := wBx_feed) B.pre w (List.mem_cons_of_mem _ h)
  have hown : s.vm.findClass R_Bx = some m.cls := findClass_of_methodNamed B.named
  have hlocks := B.notSynchronized
  subst hsz
  have hD := hD0.self (sz := s.heap.size)
  generalize hAe : va_A [(bx, .inr (4, [.ref rt, .ref rs, .ref ro, .ref ri, .ref ra, .ref ma])), (rt, .inr (2, [.ref bt, .int (nI nt)])), (bt, .inl (k 0, ct, .inl (by_ ft)))] s.heap.size = A at hD hG ⊢
  have hA : ∀ q : Nat, s.heap.size ≤ q → A q := fun q h => by rw [← hAe]; exact Or.inr h
  have hl := lv_entry ([.ref bx, .int p0, .int p1, .int p2, .int p3, .int p4]) (n := 6) (Nat.le_of_ble_eq_true rfl)
  rw [lg_entry_eq]
  generalize (lg_sl ([.ref bx, .int p0, .int p1, .int p2, .int p3, .int p4]) ++ List.replicate (6 - (lg_sl ([.ref bx, .int p0, .int p1, .int p2, .int p3, .int p4])).length) Slot.unset).toArray = ls at hl ⊢
  have hl : lv_has ls 6 [(0, .ref bx), (1, .int p0), (2, .int p1), (3, .int p2), (4, .int p3), (5, .int p4)] := hl
  refine cw_start (A := A) hP (fun H locs hP hS => ?_)
  refine lv_aload_n hx hb dBx_feed_0 rfl (lv_at hl 0 rfl) ?_
  refine va_get (D := D) (ci := 4) (v := .ref rt) (C := R_Bx) (T := T_Bx) (N := 6) hx hb hts in_Bx hown hK hP 0 rfl rfl 0 (by decide) (hts _ gm_167) (fun _ h9 => h9) rfl dBx_feed_1 ?_
  refine va_getN (D := D) (ci := 2) (v := .int (nI nt)) (C := R_Rw) (T := T_Rw) (N := 2) hx hb hts in_Rw hown hK hP 1 rfl rfl 1 (by decide) (hG.nest gn_3 rfl) (fun _ h9 => h9) rfl dBx_feed_4 ?_
  refine lv_ldc (v := 65516) hx hb hown (hts _ gm_224) dBx_feed_7 ?_
  rw [show (65516 : Int32) = nI 65516 from rfl]
  refine ri_le (tgt := 20) hx hb dBx_feed_9 (by decide) (by omega) (by omega) (fun c_9 => ?_) (fun c_9 => absurd c_9 (by omega))
  refine lv_aload_n hx hb dBx_feed_20 rfl (lv_at hl 0 rfl) ?_
  refine va_get (D := D) (ci := 4) (v := .ref rt) (C := R_Bx) (T := T_Bx) (N := 6) hx hb hts in_Bx hown hK hP 0 rfl rfl 0 (by decide) (hts _ gm_167) (fun _ h9 => h9) rfl dBx_feed_21 ?_
  refine lv_iload_n hx hb dBx_feed_24 rfl (lv_at hl 1 rfl) ?_
  have ga0 := gcs_ge (cap := ct) (len := nt) ht2 0
  have gb0 : gcs ct nt 0 ≤ 100000 := gcs_lt ht1 0 (by omega)
  have gd0 : gcs ct nt 0 ≤ gcs ct nt 4 := gcs_mono ct nt 0 4
  have ge0 : gcs (gcs ct nt 0) (nt + 0) 4 = gcs ct nt 4 := gcs_add ct nt 0 4
  have ga1 := gcs_ge (cap := ct) (len := nt) ht2 4
  have gb1 : gcs ct nt 4 ≤ 100000 := gcs_lt ht1 4 (by omega)
  have gd1 : gcs ct nt 4 ≤ gcs ct nt 8 := gcs_mono ct nt 4 4
  have ge1 : gcs (gcs ct nt 4) (nt + 4) 4 = gcs ct nt 8 := gcs_add ct nt 4 4
  have ga2 := gcs_ge (cap := ct) (len := nt) ht2 8
  have gb2 : gcs ct nt 8 ≤ 100000 := gcs_lt ht1 8 (by omega)
  have gd2 : gcs ct nt 8 ≤ gcs ct nt 12 := gcs_mono ct nt 8 4
  have ge2 : gcs (gcs ct nt 8) (nt + 8) 4 = gcs ct nt 12 := gcs_add ct nt 8 4
  have ga3 := gcs_ge (cap := ct) (len := nt) ht2 12
  have gb3 : gcs ct nt 12 ≤ 100000 := gcs_lt ht1 12 (by omega)
  have gd3 : gcs ct nt 12 ≤ gcs ct nt 16 := gcs_mono ct nt 12 4
  have ge3 : gcs (gcs ct nt 12) (nt + 12) 4 = gcs ct nt 16 := gcs_add ct nt 12 4
  have ga4 := gcs_ge (cap := ct) (len := nt) ht2 16
  have gb4 : gcs ct nt 16 ≤ 100000 := gcs_lt ht1 16 (by omega)
  have gd4 : gcs ct nt 16 ≤ gcs ct nt 20 := gcs_mono ct nt 16 4
  have ge4 : gcs (gcs ct nt 16) (nt + 16) 4 = gcs ct nt 20 := gcs_add ct nt 16 4
  have ga5 := gcs_ge (cap := ct) (len := nt) ht2 20
  have gb5 : gcs ct nt 20 ≤ 100000 := gcs_lt ht1 20 (by omega)
  have gz : gcs ct nt 0 = ct := rfl
  have hP : va_P D vwCl [(bx, .inr (4, [.ref rt, .ref rs, .ref ro, .ref ri, .ref ra, .ref ma])), (rt, .inr (2, [.ref bt, .int (nI (nt + 0))])), (bt, .inl (k 0, gcs ct nt 0, .inl (by_ ft)))] H := hP
  have hD : va_D A [(bx, .inr (4, [.ref rt, .ref rs, .ref ro, .ref ri, .ref ra, .ref ma])), (rt, .inr (2, [.ref bt, .int (nI (nt + 0))])), (bt, .inl (k 0, gcs ct nt 0, .inl (by_ ft)))] := hD
  refine rc_v (wr := [(bx, .inr (4, [.ref rt, .ref rs, .ref ro, .ref ri, .ref ra, .ref ma]))]) (va_runVN (As := [.int p0]) (rest := []) ⟨hx, hb, hml, hown, hts⟩ (c_Row_appendNumber l D k tb H.size rt bt (gcs ct nt 0) (nt + 0) p0 ft (by omega) (by omega) (by omega) (by omega)) ⟨va_cnB 1 hts (gC gm_272) rfl rfl rfl (hG.1 _ gn_16) (hts _ gm_51) (by decide +kernel) ⟨Nat.le_of_ble_eq_true rfl, Nat.le_of_ble_eq_true rfl⟩, hts _ gm_271, hts _ gm_4⟩ (cP_V hP hD hK hG hS hA [1, 2] (by decide) rfl (ci := 2) (q0 := 1) rfl rfl) rfl rfl hl.1 rfl (lv_room (Nat.le_of_ble_eq_true rfl)) dBx_feed_25 ⟨by show 0 + (gcs (gcs ct nt 0) (nt + 0) 4 - gcs ct nt 0) ≤ gcs ct nt 20 - ct; omega, by show 0 + (2 * (gcs (gcs ct nt 0) (nt + 0) 4 - gcs ct nt 0)) ≤ 2 * (gcs ct nt 20 - ct); omega⟩) hS hA hP hD [1, 2] [0] rfl rfl (by decide) (by decide) (fun u9 H locs hw hP hD hS => ?_)
  obtain ⟨b1, f1⟩ := u9
  have hP : va_P D vwCl [(bx, .inr (4, [.ref rt, .ref rs, .ref ro, .ref ri, .ref ra, .ref ma])), (rt, .inr (2, [.ref b1, .int (nI ((nt + 0) + 4))])), (b1, .inl (k 0, gcs (gcs ct nt 0) (nt + 0) 4, .inl (by_ f1)))] H := hP
  have hD : va_D A [(bx, .inr (4, [.ref rt, .ref rs, .ref ro, .ref ri, .ref ra, .ref ma])), (rt, .inr (2, [.ref b1, .int (nI ((nt + 0) + 4))])), (b1, .inl (k 0, gcs (gcs ct nt 0) (nt + 0) 4, .inl (by_ f1)))] := hD
  have hw1 : (∀ j, j < nt + 0 → f1 j = ft j) ∧ f1 (nt + 0) = (iu p0 24).toInt8 ∧ f1 (nt + 0 + 1) = (iu p0 16).toInt8 ∧ f1 (nt + 0 + 2) = (iu p0 8).toInt8 ∧ f1 (nt + 0 + 3) = p0.toInt8 := hw
  rw [ge0] at hP hD
  have hP : va_P D vwCl [(bx, .inr (4, [.ref rt, .ref rs, .ref ro, .ref ri, .ref ra, .ref ma])), (rt, .inr (2, [.ref b1, .int (nI (nt + 4))])), (b1, .inl (k 0, gcs ct nt 4, .inl (by_ f1)))] H := hP
  have hD : va_D A [(bx, .inr (4, [.ref rt, .ref rs, .ref ro, .ref ri, .ref ra, .ref ma])), (rt, .inr (2, [.ref b1, .int (nI (nt + 4))])), (b1, .inl (k 0, gcs ct nt 4, .inl (by_ f1)))] := hD
  refine lv_aload_n hx hb dBx_feed_28 rfl (lv_at hl 0 rfl) ?_
  refine va_get (D := D) (ci := 4) (v := .ref rt) (C := R_Bx) (T := T_Bx) (N := 6) hx hb hts in_Bx hown hK hP 0 rfl rfl 0 (by decide) (hts _ gm_167) (fun _ h9 => h9) rfl dBx_feed_29 ?_
  refine lv_iload_n hx hb dBx_feed_32 rfl (lv_at hl 2 rfl) ?_
  refine rc_v (wr := [(bx, .inr (4, [.ref rt, .ref rs, .ref ro, .ref ri, .ref ra, .ref ma]))]) (va_runVN (As := [.int p1]) (rest := []) ⟨hx, hb, hml, hown, hts⟩ (c_Row_appendNumber l D k tb H.size rt b1 (gcs ct nt 4) (nt + 4) p1 f1 (by omega) (by omega) (by omega) (by omega)) ⟨va_cnB 1 hts (gC gm_272) rfl rfl rfl (hG.1 _ gn_16) (hts _ gm_51) (by decide +kernel) ⟨Nat.le_of_ble_eq_true rfl, Nat.le_of_ble_eq_true rfl⟩, hts _ gm_271, hts _ gm_4⟩ (cP_V hP hD hK hG hS hA [1, 2] (by decide) rfl (ci := 2) (q0 := 1) rfl rfl) rfl rfl hl.1 rfl (lv_room (Nat.le_of_ble_eq_true rfl)) dBx_feed_33 ⟨by show 0 + (gcs (gcs ct nt 0) (nt + 0) 4 - gcs ct nt 0) + (gcs (gcs ct nt 4) (nt + 4) 4 - gcs ct nt 4) ≤ gcs ct nt 20 - ct; omega, by show 0 + (2 * (gcs (gcs ct nt 0) (nt + 0) 4 - gcs ct nt 0)) + (2 * (gcs (gcs ct nt 4) (nt + 4) 4 - gcs ct nt 4)) ≤ 2 * (gcs ct nt 20 - ct); omega⟩) hS hA hP hD [1, 2] [0] rfl rfl (by decide) (by decide) (fun u9 H locs hw hP hD hS => ?_)
  obtain ⟨b2, f2⟩ := u9
  have hP : va_P D vwCl [(bx, .inr (4, [.ref rt, .ref rs, .ref ro, .ref ri, .ref ra, .ref ma])), (rt, .inr (2, [.ref b2, .int (nI ((nt + 4) + 4))])), (b2, .inl (k 0, gcs (gcs ct nt 4) (nt + 4) 4, .inl (by_ f2)))] H := hP
  have hD : va_D A [(bx, .inr (4, [.ref rt, .ref rs, .ref ro, .ref ri, .ref ra, .ref ma])), (rt, .inr (2, [.ref b2, .int (nI ((nt + 4) + 4))])), (b2, .inl (k 0, gcs (gcs ct nt 4) (nt + 4) 4, .inl (by_ f2)))] := hD
  have hw2 : (∀ j, j < nt + 4 → f2 j = f1 j) ∧ f2 (nt + 4) = (iu p1 24).toInt8 ∧ f2 (nt + 4 + 1) = (iu p1 16).toInt8 ∧ f2 (nt + 4 + 2) = (iu p1 8).toInt8 ∧ f2 (nt + 4 + 3) = p1.toInt8 := hw
  rw [ge1] at hP hD
  have hP : va_P D vwCl [(bx, .inr (4, [.ref rt, .ref rs, .ref ro, .ref ri, .ref ra, .ref ma])), (rt, .inr (2, [.ref b2, .int (nI (nt + 8))])), (b2, .inl (k 0, gcs ct nt 8, .inl (by_ f2)))] H := hP
  have hD : va_D A [(bx, .inr (4, [.ref rt, .ref rs, .ref ro, .ref ri, .ref ra, .ref ma])), (rt, .inr (2, [.ref b2, .int (nI (nt + 8))])), (b2, .inl (k 0, gcs ct nt 8, .inl (by_ f2)))] := hD
  refine lv_aload_n hx hb dBx_feed_36 rfl (lv_at hl 0 rfl) ?_
  refine va_get (D := D) (ci := 4) (v := .ref rt) (C := R_Bx) (T := T_Bx) (N := 6) hx hb hts in_Bx hown hK hP 0 rfl rfl 0 (by decide) (hts _ gm_167) (fun _ h9 => h9) rfl dBx_feed_37 ?_
  refine lv_iload_n hx hb dBx_feed_40 rfl (lv_at hl 3 rfl) ?_
  refine rc_v (wr := [(bx, .inr (4, [.ref rt, .ref rs, .ref ro, .ref ri, .ref ra, .ref ma]))]) (va_runVN (As := [.int p2]) (rest := []) ⟨hx, hb, hml, hown, hts⟩ (c_Row_appendNumber l D k tb H.size rt b2 (gcs ct nt 8) (nt + 8) p2 f2 (by omega) (by omega) (by omega) (by omega)) ⟨va_cnB 1 hts (gC gm_272) rfl rfl rfl (hG.1 _ gn_16) (hts _ gm_51) (by decide +kernel) ⟨Nat.le_of_ble_eq_true rfl, Nat.le_of_ble_eq_true rfl⟩, hts _ gm_271, hts _ gm_4⟩ (cP_V hP hD hK hG hS hA [1, 2] (by decide) rfl (ci := 2) (q0 := 1) rfl rfl) rfl rfl hl.1 rfl (lv_room (Nat.le_of_ble_eq_true rfl)) dBx_feed_41 ⟨by show 0 + (gcs (gcs ct nt 0) (nt + 0) 4 - gcs ct nt 0) + (gcs (gcs ct nt 4) (nt + 4) 4 - gcs ct nt 4) + (gcs (gcs ct nt 8) (nt + 8) 4 - gcs ct nt 8) ≤ gcs ct nt 20 - ct; omega, by show 0 + (2 * (gcs (gcs ct nt 0) (nt + 0) 4 - gcs ct nt 0)) + (2 * (gcs (gcs ct nt 4) (nt + 4) 4 - gcs ct nt 4)) + (2 * (gcs (gcs ct nt 8) (nt + 8) 4 - gcs ct nt 8)) ≤ 2 * (gcs ct nt 20 - ct); omega⟩) hS hA hP hD [1, 2] [0] rfl rfl (by decide) (by decide) (fun u9 H locs hw hP hD hS => ?_)
  obtain ⟨b3, f3⟩ := u9
  have hP : va_P D vwCl [(bx, .inr (4, [.ref rt, .ref rs, .ref ro, .ref ri, .ref ra, .ref ma])), (rt, .inr (2, [.ref b3, .int (nI ((nt + 8) + 4))])), (b3, .inl (k 0, gcs (gcs ct nt 8) (nt + 8) 4, .inl (by_ f3)))] H := hP
  have hD : va_D A [(bx, .inr (4, [.ref rt, .ref rs, .ref ro, .ref ri, .ref ra, .ref ma])), (rt, .inr (2, [.ref b3, .int (nI ((nt + 8) + 4))])), (b3, .inl (k 0, gcs (gcs ct nt 8) (nt + 8) 4, .inl (by_ f3)))] := hD
  have hw3 : (∀ j, j < nt + 8 → f3 j = f2 j) ∧ f3 (nt + 8) = (iu p2 24).toInt8 ∧ f3 (nt + 8 + 1) = (iu p2 16).toInt8 ∧ f3 (nt + 8 + 2) = (iu p2 8).toInt8 ∧ f3 (nt + 8 + 3) = p2.toInt8 := hw
  rw [ge2] at hP hD
  have hP : va_P D vwCl [(bx, .inr (4, [.ref rt, .ref rs, .ref ro, .ref ri, .ref ra, .ref ma])), (rt, .inr (2, [.ref b3, .int (nI (nt + 12))])), (b3, .inl (k 0, gcs ct nt 12, .inl (by_ f3)))] H := hP
  have hD : va_D A [(bx, .inr (4, [.ref rt, .ref rs, .ref ro, .ref ri, .ref ra, .ref ma])), (rt, .inr (2, [.ref b3, .int (nI (nt + 12))])), (b3, .inl (k 0, gcs ct nt 12, .inl (by_ f3)))] := hD
  refine lv_aload_n hx hb dBx_feed_44 rfl (lv_at hl 0 rfl) ?_
  refine va_get (D := D) (ci := 4) (v := .ref rt) (C := R_Bx) (T := T_Bx) (N := 6) hx hb hts in_Bx hown hK hP 0 rfl rfl 0 (by decide) (hts _ gm_167) (fun _ h9 => h9) rfl dBx_feed_45 ?_
  refine lv_iload hx hb dBx_feed_48 (lv_at hl 4 rfl) ?_
  refine rc_v (wr := [(bx, .inr (4, [.ref rt, .ref rs, .ref ro, .ref ri, .ref ra, .ref ma]))]) (va_runVN (As := [.int p3]) (rest := []) ⟨hx, hb, hml, hown, hts⟩ (c_Row_appendNumber l D k tb H.size rt b3 (gcs ct nt 12) (nt + 12) p3 f3 (by omega) (by omega) (by omega) (by omega)) ⟨va_cnB 1 hts (gC gm_272) rfl rfl rfl (hG.1 _ gn_16) (hts _ gm_51) (by decide +kernel) ⟨Nat.le_of_ble_eq_true rfl, Nat.le_of_ble_eq_true rfl⟩, hts _ gm_271, hts _ gm_4⟩ (cP_V hP hD hK hG hS hA [1, 2] (by decide) rfl (ci := 2) (q0 := 1) rfl rfl) rfl rfl hl.1 rfl (lv_room (Nat.le_of_ble_eq_true rfl)) dBx_feed_50 ⟨by show 0 + (gcs (gcs ct nt 0) (nt + 0) 4 - gcs ct nt 0) + (gcs (gcs ct nt 4) (nt + 4) 4 - gcs ct nt 4) + (gcs (gcs ct nt 8) (nt + 8) 4 - gcs ct nt 8) + (gcs (gcs ct nt 12) (nt + 12) 4 - gcs ct nt 12) ≤ gcs ct nt 20 - ct; omega, by show 0 + (2 * (gcs (gcs ct nt 0) (nt + 0) 4 - gcs ct nt 0)) + (2 * (gcs (gcs ct nt 4) (nt + 4) 4 - gcs ct nt 4)) + (2 * (gcs (gcs ct nt 8) (nt + 8) 4 - gcs ct nt 8)) + (2 * (gcs (gcs ct nt 12) (nt + 12) 4 - gcs ct nt 12)) ≤ 2 * (gcs ct nt 20 - ct); omega⟩) hS hA hP hD [1, 2] [0] rfl rfl (by decide) (by decide) (fun u9 H locs hw hP hD hS => ?_)
  obtain ⟨b4, f4⟩ := u9
  have hP : va_P D vwCl [(bx, .inr (4, [.ref rt, .ref rs, .ref ro, .ref ri, .ref ra, .ref ma])), (rt, .inr (2, [.ref b4, .int (nI ((nt + 12) + 4))])), (b4, .inl (k 0, gcs (gcs ct nt 12) (nt + 12) 4, .inl (by_ f4)))] H := hP
  have hD : va_D A [(bx, .inr (4, [.ref rt, .ref rs, .ref ro, .ref ri, .ref ra, .ref ma])), (rt, .inr (2, [.ref b4, .int (nI ((nt + 12) + 4))])), (b4, .inl (k 0, gcs (gcs ct nt 12) (nt + 12) 4, .inl (by_ f4)))] := hD
  have hw4 : (∀ j, j < nt + 12 → f4 j = f3 j) ∧ f4 (nt + 12) = (iu p3 24).toInt8 ∧ f4 (nt + 12 + 1) = (iu p3 16).toInt8 ∧ f4 (nt + 12 + 2) = (iu p3 8).toInt8 ∧ f4 (nt + 12 + 3) = p3.toInt8 := hw
  rw [ge3] at hP hD
  have hP : va_P D vwCl [(bx, .inr (4, [.ref rt, .ref rs, .ref ro, .ref ri, .ref ra, .ref ma])), (rt, .inr (2, [.ref b4, .int (nI (nt + 16))])), (b4, .inl (k 0, gcs ct nt 16, .inl (by_ f4)))] H := hP
  have hD : va_D A [(bx, .inr (4, [.ref rt, .ref rs, .ref ro, .ref ri, .ref ra, .ref ma])), (rt, .inr (2, [.ref b4, .int (nI (nt + 16))])), (b4, .inl (k 0, gcs ct nt 16, .inl (by_ f4)))] := hD
  refine lv_aload_n hx hb dBx_feed_53 rfl (lv_at hl 0 rfl) ?_
  refine va_get (D := D) (ci := 4) (v := .ref rt) (C := R_Bx) (T := T_Bx) (N := 6) hx hb hts in_Bx hown hK hP 0 rfl rfl 0 (by decide) (hts _ gm_167) (fun _ h9 => h9) rfl dBx_feed_54 ?_
  refine lv_iload hx hb dBx_feed_57 (lv_at hl 5 rfl) ?_
  refine rc_v (wr := [(bx, .inr (4, [.ref rt, .ref rs, .ref ro, .ref ri, .ref ra, .ref ma]))]) (va_runVN (As := [.int p4]) (rest := []) ⟨hx, hb, hml, hown, hts⟩ (c_Row_appendNumber l D k tb H.size rt b4 (gcs ct nt 16) (nt + 16) p4 f4 (by omega) (by omega) (by omega) (by omega)) ⟨va_cnB 1 hts (gC gm_272) rfl rfl rfl (hG.1 _ gn_16) (hts _ gm_51) (by decide +kernel) ⟨Nat.le_of_ble_eq_true rfl, Nat.le_of_ble_eq_true rfl⟩, hts _ gm_271, hts _ gm_4⟩ (cP_V hP hD hK hG hS hA [1, 2] (by decide) rfl (ci := 2) (q0 := 1) rfl rfl) rfl rfl hl.1 rfl (lv_room (Nat.le_of_ble_eq_true rfl)) dBx_feed_59 ⟨by show 0 + (gcs (gcs ct nt 0) (nt + 0) 4 - gcs ct nt 0) + (gcs (gcs ct nt 4) (nt + 4) 4 - gcs ct nt 4) + (gcs (gcs ct nt 8) (nt + 8) 4 - gcs ct nt 8) + (gcs (gcs ct nt 12) (nt + 12) 4 - gcs ct nt 12) + (gcs (gcs ct nt 16) (nt + 16) 4 - gcs ct nt 16) ≤ gcs ct nt 20 - ct; omega, by show 0 + (2 * (gcs (gcs ct nt 0) (nt + 0) 4 - gcs ct nt 0)) + (2 * (gcs (gcs ct nt 4) (nt + 4) 4 - gcs ct nt 4)) + (2 * (gcs (gcs ct nt 8) (nt + 8) 4 - gcs ct nt 8)) + (2 * (gcs (gcs ct nt 12) (nt + 12) 4 - gcs ct nt 12)) + (2 * (gcs (gcs ct nt 16) (nt + 16) 4 - gcs ct nt 16)) ≤ 2 * (gcs ct nt 20 - ct); omega⟩) hS hA hP hD [1, 2] [0] rfl rfl (by decide) (by decide) (fun u9 H locs hw hP hD hS => ?_)
  obtain ⟨b5, f5⟩ := u9
  have hP : va_P D vwCl [(bx, .inr (4, [.ref rt, .ref rs, .ref ro, .ref ri, .ref ra, .ref ma])), (rt, .inr (2, [.ref b5, .int (nI ((nt + 16) + 4))])), (b5, .inl (k 0, gcs (gcs ct nt 16) (nt + 16) 4, .inl (by_ f5)))] H := hP
  have hD : va_D A [(bx, .inr (4, [.ref rt, .ref rs, .ref ro, .ref ri, .ref ra, .ref ma])), (rt, .inr (2, [.ref b5, .int (nI ((nt + 16) + 4))])), (b5, .inl (k 0, gcs (gcs ct nt 16) (nt + 16) 4, .inl (by_ f5)))] := hD
  have hw5 : (∀ j, j < nt + 16 → f5 j = f4 j) ∧ f5 (nt + 16) = (iu p4 24).toInt8 ∧ f5 (nt + 16 + 1) = (iu p4 16).toInt8 ∧ f5 (nt + 16 + 2) = (iu p4 8).toInt8 ∧ f5 (nt + 16 + 3) = p4.toInt8 := hw
  rw [ge4] at hP hD
  have hP : va_P D vwCl [(bx, .inr (4, [.ref rt, .ref rs, .ref ro, .ref ri, .ref ra, .ref ma])), (rt, .inr (2, [.ref b5, .int (nI (nt + 20))])), (b5, .inl (k 0, gcs ct nt 20, .inl (by_ f5)))] H := hP
  have hD : va_D A [(bx, .inr (4, [.ref rt, .ref rs, .ref ro, .ref ri, .ref ra, .ref ma])), (rt, .inr (2, [.ref b5, .int (nI (nt + 20))])), (b5, .inl (k 0, gcs ct nt 20, .inl (by_ f5)))] := hD
  refine lv_aload_n hx hb dBx_feed_62 rfl (lv_at hl 0 rfl) ?_
  refine va_get (D := D) (ci := 4) (v := .ref rt) (C := R_Bx) (T := T_Bx) (N := 6) hx hb hts in_Bx hown hK hP 0 rfl rfl 0 (by decide) (hts _ gm_167) (fun _ h9 => h9) rfl dBx_feed_63 ?_
  refine va_getN (D := D) (ci := 2) (v := .int (nI (nt + 20))) (C := R_Rw) (T := T_Rw) (N := 2) hx hb hts in_Rw hown hK hP 1 rfl rfl 1 (by decide) (hG.nest gn_3 rfl) (fun _ h9 => h9) rfl dBx_feed_66 ?_
  have hpost : (∀ j, j < nt → f5 j = ft j) ∧ ∀ i, i < 20 → f5 (nt + i) = fdF p0 p1 p2 p3 p4 i := fdB hw1 hw2 hw3 hw4 hw5
  refine W.widen (k := gcs ct nt 20 - ct) (n := 2 * (gcs ct nt 20 - ct)) (by omega) (by omega) ?_
  exact W.iret (v := nI (nt + 20)) hx hb hr (fun t ht hW => ⟨⟨nI (nt + 20), (b5, f5), rfl, ⟨rfl, hpost⟩, by rw [ht]; exact hP, hD⟩, hS.F ht⟩) hS.2.2 dBx_feed_69
set_option maxHeartbeats 600000 in
set_option maxRecDepth 100000 in
theorem c_end (l : Launch) (D : va_G) (k : Nat → ClassId) (tb : Nat → Nat) (sz : Nat) (bx rt rs ro ri ra ma : Nat) (bt nt n : Nat) (hn : n ≤ nt) (hnt : nt < 20000) : Met l yBx_end wBx_end ({ frames := 0, cells := 0, slots := 0, locals := 0 }) (cP D k tb [(bx, .inr (4, [.ref rt, .ref rs, .ref ro, .ref ri, .ref ra, .ref ma])), (rt, .inr (2, [.ref bt, .int (nI nt)]))] sz [.ref bx, .int (nI n)]) (va_Qi (fun (r : Int32) (u : Unit) => r = nI n) (fun (u : Unit) (t : State) => va_P D vwCl [(bx, .inr (4, [.ref rt, .ref rs, .ref ro, .ref ri, .ref ra, .ref ma])), (rt, .inr (2, [.ref bt, .int (nI n)]))] t.heap ∧ va_D (va_A [(bx, .inr (4, [.ref rt, .ref rs, .ref ro, .ref ri, .ref ra, .ref ma])), (rt, .inr (2, [.ref bt, .int (nI nt)]))] sz) [(bx, .inr (4, [.ref rt, .ref rs, .ref ro, .ref ri, .ref ra, .ref ma])), (rt, .inr (2, [.ref bt, .int (nI n)]))]) (va_A [(bx, .inr (4, [.ref rt, .ref rs, .ref ro, .ref ri, .ref ra, .ref ma])), (rt, .inr (2, [.ref bt, .int (nI nt)]))] sz)) (0) (0) (va_A [(bx, .inr (4, [.ref rt, .ref rs, .ref ro, .ref ri, .ref ra, .ref ma])), (rt, .inr (2, [.ref bt, .int (nI nt)]))] sz) := by
  refine Met.ofW (cc := cBx_end) (maxL := 2) (ret := (some .int)) (by decide) rfl ?_
  intro p e s m args below meth c s₁ B hml hv
  obtain ⟨rfl, hsz, hP, hK, hD0, hG⟩ := hv
  have hx := B.exec
  have hb := B.bytes
  have hr := B.returns
  have hts : ∀ w ∈ GT, w.before _ s = true := fun w h => atoms_spec (ws := wBx_end) B.pre w (List.mem_cons_of_mem _ h)
  have hown : s.vm.findClass R_Bx = some m.cls := findClass_of_methodNamed B.named
  have hlocks := B.notSynchronized
  subst hsz
  have hD := hD0.self (sz := s.heap.size)
  generalize hAe : va_A [(bx, .inr (4, [.ref rt, .ref rs, .ref ro, .ref ri, .ref ra, .ref ma])), (rt, .inr (2, [.ref bt, .int (nI nt)]))] s.heap.size = A at hD hG ⊢
  have hA : ∀ q : Nat, s.heap.size ≤ q → A q := fun q h => by rw [← hAe]; exact Or.inr h
  have hl := lv_entry ([.ref bx, .int (nI n)]) (n := 2) (Nat.le_of_ble_eq_true rfl)
  rw [lg_entry_eq]
  generalize (lg_sl ([.ref bx, .int (nI n)]) ++ List.replicate (2 - (lg_sl ([.ref bx, .int (nI n)])).length) Slot.unset).toArray = ls at hl ⊢
  have hl : lv_has ls 2 [(0, .ref bx), (1, .int (nI n))] := hl
  refine cw_start (A := A) hP (fun H locs hP hS => ?_)
  refine lv_iload_n hx hb dBx_end_0 rfl (lv_at hl 1 rfl) ?_
  refine rz_lt (tgt := 15) hx hb dBx_end_1 (by decide) (by omega) ?_
  refine lv_iload_n hx hb dBx_end_4 rfl (lv_at hl 1 rfl) ?_
  refine lv_aload_n hx hb dBx_end_5 rfl (lv_at hl 0 rfl) ?_
  refine va_get (D := D) (ci := 4) (v := .ref rt) (C := R_Bx) (T := T_Bx) (N := 6) hx hb hts in_Bx hown hK hP 0 rfl rfl 0 (by decide) (hts _ gm_167) (fun _ h9 => h9) rfl dBx_end_6 ?_
  refine va_getN (D := D) (ci := 2) (v := .int (nI nt)) (C := R_Rw) (T := T_Rw) (N := 2) hx hb hts in_Rw hown hK hP 1 rfl rfl 1 (by decide) (hG.nest gn_3 rfl) (fun _ h9 => h9) rfl dBx_end_9 ?_
  refine ri_le (tgt := 23) hx hb dBx_end_12 (by decide) (by omega) (by omega) (fun c_12 => ?_) (fun c_12 => absurd c_12 (by omega))
  refine lv_aload_n hx hb dBx_end_23 rfl (lv_at hl 0 rfl) ?_
  refine va_get (D := D) (ci := 4) (v := .ref rt) (C := R_Bx) (T := T_Bx) (N := 6) hx hb hts in_Bx hown hK hP 0 rfl rfl 0 (by decide) (hts _ gm_167) (fun _ h9 => h9) rfl dBx_end_24 ?_
  refine lv_iload_n hx hb dBx_end_27 rfl (lv_at hl 1 rfl) ?_
  refine va_putN (D := D) (ci := 2) (v := .int (nI n)) (ty := .int) (C := R_Rw) (T := T_Rw) (N := 2) hx hb hts in_Rw t_Rw tk_Rw nm_Rw hown hK hP hD hS 1 rfl rfl 1 (by decide) (hG.nest gn_3 rfl) (fun _ h9 => h9) rfl (by decide +kernel) rfl rfl (Nat.le_of_ble_eq_true rfl) dBx_end_28 (fun H locs hP hD hS => ?_)
  have hP : va_P D vwCl [(bx, .inr (4, [.ref rt, .ref rs, .ref ro, .ref ri, .ref ra, .ref ma])), (rt, .inr (2, [.ref bt, .int (nI n)]))] H := hP
  have hD : va_D A [(bx, .inr (4, [.ref rt, .ref rs, .ref ro, .ref ri, .ref ra, .ref ma])), (rt, .inr (2, [.ref bt, .int (nI n)]))] := hD
  refine lv_iload_n hx hb dBx_end_31 rfl (lv_at hl 1 rfl) ?_
  refine W.widen (k := 0) (n := 0) (Nat.le_refl _) (Nat.le_refl _) ?_
  exact W.iret (v := nI n) hx hb hr (fun t ht hW => ⟨⟨nI n, (), rfl, rfl, by rw [ht]; exact hP, hD⟩, hS.F ht⟩) hS.2.2 dBx_end_32
set_option maxHeartbeats 600000 in
set_option maxRecDepth 100000 in
theorem c_key (l : Launch) (D : va_G) (k : Nat → ClassId) (tb : Nat → Nat) (sz : Nat) (bx rt rs ro ri ra ma : Nat) (bs ns cs : Nat) (fs : Nat → Int8) (hs0 : 0 < cs) (hs1 : cs ≤ 100000) (hs2 : ns ≤ cs) (bt nt ct : Nat) (ft : Nat → Int8) (ht0 : 0 < ct) (ht1 : ct ≤ 100000) (ht2 : nt ≤ ct) (hn : nt < 20000) : Met l yBx_key wBx_key ({ frames := 5, cells := gc cs nt - cs, slots := 2 * (gc cs nt - cs), locals := 147 }) (cP D k tb [(bx, .inr (4, [.ref rt, .ref rs, .ref ro, .ref ri, .ref ra, .ref ma])), (rs, .inr (2, [.ref bs, .int (nI ns)])), (bs, .inl (k 0, cs, .inl (by_ fs))), (rt, .inr (2, [.ref bt, .int (nI nt)])), (bt, .inl (k 0, ct, .inl (by_ ft)))] sz [.ref bx]) (va_Qi (fun (r : Int32) (u : Nat × (Nat → Int8)) => r = nI nt ∧ ∀ j, j < nt → u.2 j = ft j) (fun (u : Nat × (Nat → Int8)) (t : State) => va_P D vwCl [(bx, .inr (4, [.ref rt, .ref rs, .ref ro, .ref ri, .ref ra, .ref ma])), (rs, .inr (2, [.ref u.1, .int (nI nt)])), (u.1, .inl (k 0, gc cs nt, .inl (by_ u.2))), (rt, .inr (2, [.ref bt, .int (nI 0)])), (bt, .inl (k 0, ct, .inl (by_ ft)))] t.heap ∧ va_D (va_A [(bx, .inr (4, [.ref rt, .ref rs, .ref ro, .ref ri, .ref ra, .ref ma])), (rs, .inr (2, [.ref bs, .int (nI ns)])), (bs, .inl (k 0, cs, .inl (by_ fs))), (rt, .inr (2, [.ref bt, .int (nI nt)])), (bt, .inl (k 0, ct, .inl (by_ ft)))] sz) [(bx, .inr (4, [.ref rt, .ref rs, .ref ro, .ref ri, .ref ra, .ref ma])), (rs, .inr (2, [.ref u.1, .int (nI nt)])), (u.1, .inl (k 0, gc cs nt, .inl (by_ u.2))), (rt, .inr (2, [.ref bt, .int (nI 0)])), (bt, .inl (k 0, ct, .inl (by_ ft)))]) (va_A [(bx, .inr (4, [.ref rt, .ref rs, .ref ro, .ref ri, .ref ra, .ref ma])), (rs, .inr (2, [.ref bs, .int (nI ns)])), (bs, .inl (k 0, cs, .inl (by_ fs))), (rt, .inr (2, [.ref bt, .int (nI nt)])), (bt, .inl (k 0, ct, .inl (by_ ft)))] sz)) (gc cs nt - cs) (2 * (gc cs nt - cs)) (va_A [(bx, .inr (4, [.ref rt, .ref rs, .ref ro, .ref ri, .ref ra, .ref ma])), (rs, .inr (2, [.ref bs, .int (nI ns)])), (bs, .inl (k 0, cs, .inl (by_ fs))), (rt, .inr (2, [.ref bt, .int (nI nt)])), (bt, .inl (k 0, ct, .inl (by_ ft)))] sz) := by
  refine Met.ofW (cc := cBx_key) (maxL := 1) (ret := (some .int)) (by decide) rfl ?_
  intro p e s m args below meth c s₁ B hml hv
  obtain ⟨rfl, hsz, hP, hK, hD0, hG⟩ := hv
  have hx := B.exec
  have hb := B.bytes
  have hr := B.returns
  have hts : ∀ w ∈ GT, w.before _ s = true := fun w h => atoms_spec (ws := wBx_key) B.pre w (List.mem_cons_of_mem _ h)
  have hown : s.vm.findClass R_Bx = some m.cls := findClass_of_methodNamed B.named
  have hlocks := B.notSynchronized
  subst hsz
  have hD := hD0.self (sz := s.heap.size)
  generalize hAe : va_A [(bx, .inr (4, [.ref rt, .ref rs, .ref ro, .ref ri, .ref ra, .ref ma])), (rs, .inr (2, [.ref bs, .int (nI ns)])), (bs, .inl (k 0, cs, .inl (by_ fs))), (rt, .inr (2, [.ref bt, .int (nI nt)])), (bt, .inl (k 0, ct, .inl (by_ ft)))] s.heap.size = A at hD hG ⊢
  have hA : ∀ q : Nat, s.heap.size ≤ q → A q := fun q h => by rw [← hAe]; exact Or.inr h
  have hl := lv_entry ([.ref bx]) (n := 1) (Nat.le_of_ble_eq_true rfl)
  rw [lg_entry_eq]
  generalize (lg_sl ([.ref bx]) ++ List.replicate (1 - (lg_sl ([.ref bx])).length) Slot.unset).toArray = ls at hl ⊢
  have hl : lv_has ls 1 [(0, .ref bx)] := hl
  refine cw_start (A := A) hP (fun H locs hP hS => ?_)
  refine lv_aload_n hx hb dBx_key_0 rfl (lv_at hl 0 rfl) ?_
  refine va_get (D := D) (ci := 4) (v := .ref rs) (C := R_Bx) (T := T_Bx) (N := 6) hx hb hts in_Bx hown hK hP 0 rfl rfl 1 (by decide) (hts _ gm_168) (fun _ h9 => h9) rfl dBx_key_1 ?_
  refine lv_aload_n hx hb dBx_key_4 rfl (lv_at hl 0 rfl) ?_
  refine va_get (D := D) (ci := 4) (v := .ref rt) (C := R_Bx) (T := T_Bx) (N := 6) hx hb hts in_Bx hown hK hP 0 rfl rfl 0 (by decide) (hts _ gm_167) (fun _ h9 => h9) rfl dBx_key_5 ?_
  refine rc_v (wr := [(bx, .inr (4, [.ref rt, .ref rs, .ref ro, .ref ri, .ref ra, .ref ma]))]) (va_runVN (As := [.ref rt]) (rest := []) ⟨hx, hb, hml, hown, hts⟩ (c_Row_becomeCopyOf l D k tb H.size rs bs rt bt cs ns ct nt fs ft hs0 (by omega) (by omega) (by omega) (by omega)) ⟨va_cnB 1 hts (gC gm_184) rfl rfl rfl (hG.1 _ gn_9) (hts _ gm_51) (by decide +kernel) ⟨Nat.le_of_ble_eq_true rfl, Nat.le_of_ble_eq_true rfl⟩, hts _ gm_183, hts _ gm_0⟩ (cP_V hP hD hK hG hS hA [1, 2, 3, 4] (by decide) rfl (ci := 2) (q0 := 1) rfl rfl) rfl rfl hl.1 rfl (lv_room (Nat.le_of_ble_eq_true rfl)) dBx_key_8 ⟨by show 0 + (gc cs nt - cs) ≤ gc cs nt - cs; omega, by show 0 + (2 * (gc cs nt - cs)) ≤ 2 * (gc cs nt - cs); omega⟩) hS hA hP hD [1, 2, 3, 4] [0] rfl rfl (by decide) (by decide) (fun u9 H locs hw hP hD hS => ?_)
  obtain ⟨b1, f1⟩ := u9
  have hP : va_P D vwCl [(bx, .inr (4, [.ref rt, .ref rs, .ref ro, .ref ri, .ref ra, .ref ma])), (rs, .inr (2, [.ref b1, .int (nI nt)])), (b1, .inl (k 0, gc cs nt, .inl (by_ f1))), (rt, .inr (2, [.ref bt, .int (nI nt)])), (bt, .inl (k 0, ct, .inl (by_ ft)))] H := hP
  have hD : va_D A [(bx, .inr (4, [.ref rt, .ref rs, .ref ro, .ref ri, .ref ra, .ref ma])), (rs, .inr (2, [.ref b1, .int (nI nt)])), (b1, .inl (k 0, gc cs nt, .inl (by_ f1))), (rt, .inr (2, [.ref bt, .int (nI nt)])), (bt, .inl (k 0, ct, .inl (by_ ft)))] := hD
  refine lv_aload_n hx hb dBx_key_11 rfl (lv_at hl 0 rfl) ?_
  refine va_get (D := D) (ci := 4) (v := .ref rt) (C := R_Bx) (T := T_Bx) (N := 6) hx hb hts in_Bx hown hK hP 0 rfl rfl 0 (by decide) (hts _ gm_167) (fun _ h9 => h9) rfl dBx_key_12 ?_
  refine lv_iconst (v := nI 0) hx hb dBx_key_15 (by decide) ?_
  refine va_putN (D := D) (ci := 2) (v := .int (nI 0)) (ty := .int) (C := R_Rw) (T := T_Rw) (N := 2) hx hb hts in_Rw t_Rw tk_Rw nm_Rw hown hK hP hD hS 3 rfl rfl 1 (by decide) (hG.nest gn_3 rfl) (fun _ h9 => h9) rfl (by decide +kernel) rfl rfl (Nat.le_of_ble_eq_true rfl) dBx_key_16 (fun H locs hP hD hS => ?_)
  have hP : va_P D vwCl [(bx, .inr (4, [.ref rt, .ref rs, .ref ro, .ref ri, .ref ra, .ref ma])), (rs, .inr (2, [.ref b1, .int (nI nt)])), (b1, .inl (k 0, gc cs nt, .inl (by_ f1))), (rt, .inr (2, [.ref bt, .int (nI 0)])), (bt, .inl (k 0, ct, .inl (by_ ft)))] H := hP
  have hD : va_D A [(bx, .inr (4, [.ref rt, .ref rs, .ref ro, .ref ri, .ref ra, .ref ma])), (rs, .inr (2, [.ref b1, .int (nI nt)])), (b1, .inl (k 0, gc cs nt, .inl (by_ f1))), (rt, .inr (2, [.ref bt, .int (nI 0)])), (bt, .inl (k 0, ct, .inl (by_ ft)))] := hD
  refine lv_aload_n hx hb dBx_key_19 rfl (lv_at hl 0 rfl) ?_
  refine va_get (D := D) (ci := 4) (v := .ref rs) (C := R_Bx) (T := T_Bx) (N := 6) hx hb hts in_Bx hown hK hP 0 rfl rfl 1 (by decide) (hts _ gm_168) (fun _ h9 => h9) rfl dBx_key_20 ?_
  refine va_getN (D := D) (ci := 2) (v := .int (nI nt)) (C := R_Rw) (T := T_Rw) (N := 2) hx hb hts in_Rw hown hK hP 1 rfl rfl 1 (by decide) (hG.nest gn_3 rfl) (fun _ h9 => h9) rfl dBx_key_23 ?_
  refine W.widen (k := gc cs nt - cs) (n := 2 * (gc cs nt - cs)) (by omega) (by omega) ?_
  exact W.iret (v := nI nt) hx hb hr (fun t ht hW => ⟨⟨nI nt, (b1, f1), rfl, ⟨rfl, hw⟩, by rw [ht]; exact hP, hD⟩, hS.F ht⟩) hS.2.2 dBx_key_26
set_option maxHeartbeats 600000 in
set_option maxRecDepth 100000 in
theorem c_keep (l : Launch) (D : va_G) (k : Nat → ClassId) (tb : Nat → Nat) (sz : Nat) (bx rt rs ro ri ra ma : Nat) (bs ns cs : Nat) (fs : Nat → Int8) (hs0 : 0 < cs) (hs1 : cs ≤ 100000) (hs2 : ns ≤ cs) (bo no co : Nat) (fo : Nat → Int8) (ho0 : 0 < co) (ho1 : co ≤ 100000) (ho2 : no ≤ co) (hn : no < 20000) : Met l yBx_keep wBx_keep ({ frames := 5, cells := gc cs no - cs, slots := 2 * (gc cs no - cs), locals := 147 }) (cP D k tb [(bx, .inr (4, [.ref rt, .ref rs, .ref ro, .ref ri, .ref ra, .ref ma])), (rs, .inr (2, [.ref bs, .int (nI ns)])), (bs, .inl (k 0, cs, .inl (by_ fs))), (ro, .inr (2, [.ref bo, .int (nI no)])), (bo, .inl (k 0, co, .inl (by_ fo)))] sz [.ref bx]) (va_Qi (fun (r : Int32) (u : Nat × (Nat → Int8)) => r = nI no ∧ ∀ j, j < no → u.2 j = fo j) (fun (u : Nat × (Nat → Int8)) (t : State) => va_P D vwCl [(bx, .inr (4, [.ref rt, .ref rs, .ref ro, .ref ri, .ref ra, .ref ma])), (rs, .inr (2, [.ref u.1, .int (nI no)])), (u.1, .inl (k 0, gc cs no, .inl (by_ u.2))), (ro, .inr (2, [.ref bo, .int (nI no)])), (bo, .inl (k 0, co, .inl (by_ fo)))] t.heap ∧ va_D (va_A [(bx, .inr (4, [.ref rt, .ref rs, .ref ro, .ref ri, .ref ra, .ref ma])), (rs, .inr (2, [.ref bs, .int (nI ns)])), (bs, .inl (k 0, cs, .inl (by_ fs))), (ro, .inr (2, [.ref bo, .int (nI no)])), (bo, .inl (k 0, co, .inl (by_ fo)))] sz) [(bx, .inr (4, [.ref rt, .ref rs, .ref ro, .ref ri, .ref ra, .ref ma])), (rs, .inr (2, [.ref u.1, .int (nI no)])), (u.1, .inl (k 0, gc cs no, .inl (by_ u.2))), (ro, .inr (2, [.ref bo, .int (nI no)])), (bo, .inl (k 0, co, .inl (by_ fo)))]) (va_A [(bx, .inr (4, [.ref rt, .ref rs, .ref ro, .ref ri, .ref ra, .ref ma])), (rs, .inr (2, [.ref bs, .int (nI ns)])), (bs, .inl (k 0, cs, .inl (by_ fs))), (ro, .inr (2, [.ref bo, .int (nI no)])), (bo, .inl (k 0, co, .inl (by_ fo)))] sz)) (gc cs no - cs) (2 * (gc cs no - cs)) (va_A [(bx, .inr (4, [.ref rt, .ref rs, .ref ro, .ref ri, .ref ra, .ref ma])), (rs, .inr (2, [.ref bs, .int (nI ns)])), (bs, .inl (k 0, cs, .inl (by_ fs))), (ro, .inr (2, [.ref bo, .int (nI no)])), (bo, .inl (k 0, co, .inl (by_ fo)))] sz) := by
  refine Met.ofW (cc := cBx_keep) (maxL := 1) (ret := (some .int)) (by decide) rfl ?_
  intro p e s m args below meth c s₁ B hml hv
  obtain ⟨rfl, hsz, hP, hK, hD0, hG⟩ := hv
  have hx := B.exec
  have hb := B.bytes
  have hr := B.returns
  have hts : ∀ w ∈ GT, w.before _ s = true := fun w h => atoms_spec (ws := wBx_keep) B.pre w (List.mem_cons_of_mem _ h)
  have hown : s.vm.findClass R_Bx = some m.cls := findClass_of_methodNamed B.named
  have hlocks := B.notSynchronized
  subst hsz
  have hD := hD0.self (sz := s.heap.size)
  generalize hAe : va_A [(bx, .inr (4, [.ref rt, .ref rs, .ref ro, .ref ri, .ref ra, .ref ma])), (rs, .inr (2, [.ref bs, .int (nI ns)])), (bs, .inl (k 0, cs, .inl (by_ fs))), (ro, .inr (2, [.ref bo, .int (nI no)])), (bo, .inl (k 0, co, .inl (by_ fo)))] s.heap.size = A at hD hG ⊢
  have hA : ∀ q : Nat, s.heap.size ≤ q → A q := fun q h => by rw [← hAe]; exact Or.inr h
  have hl := lv_entry ([.ref bx]) (n := 1) (Nat.le_of_ble_eq_true rfl)
  rw [lg_entry_eq]
  generalize (lg_sl ([.ref bx]) ++ List.replicate (1 - (lg_sl ([.ref bx])).length) Slot.unset).toArray = ls at hl ⊢
  have hl : lv_has ls 1 [(0, .ref bx)] := hl
  refine cw_start (A := A) hP (fun H locs hP hS => ?_)
  refine lv_aload_n hx hb dBx_keep_0 rfl (lv_at hl 0 rfl) ?_
  refine va_get (D := D) (ci := 4) (v := .ref rs) (C := R_Bx) (T := T_Bx) (N := 6) hx hb hts in_Bx hown hK hP 0 rfl rfl 1 (by decide) (hts _ gm_168) (fun _ h9 => h9) rfl dBx_keep_1 ?_
  refine lv_aload_n hx hb dBx_keep_4 rfl (lv_at hl 0 rfl) ?_
  refine va_get (D := D) (ci := 4) (v := .ref ro) (C := R_Bx) (T := T_Bx) (N := 6) hx hb hts in_Bx hown hK hP 0 rfl rfl 2 (by decide) (hts _ gm_169) (fun _ h9 => h9) rfl dBx_keep_5 ?_
  refine rc_v (wr := [(bx, .inr (4, [.ref rt, .ref rs, .ref ro, .ref ri, .ref ra, .ref ma]))]) (va_runVN (As := [.ref ro]) (rest := []) ⟨hx, hb, hml, hown, hts⟩ (c_Row_becomeCopyOf l D k tb H.size rs bs ro bo cs ns co no fs fo hs0 (by omega) (by omega) (by omega) (by omega)) ⟨va_cnB 1 hts (gC gm_184) rfl rfl rfl (hG.1 _ gn_9) (hts _ gm_51) (by decide +kernel) ⟨Nat.le_of_ble_eq_true rfl, Nat.le_of_ble_eq_true rfl⟩, hts _ gm_183, hts _ gm_0⟩ (cP_V hP hD hK hG hS hA [1, 2, 3, 4] (by decide) rfl (ci := 2) (q0 := 1) rfl rfl) rfl rfl hl.1 rfl (lv_room (Nat.le_of_ble_eq_true rfl)) dBx_keep_8 ⟨by show 0 + (gc cs no - cs) ≤ gc cs no - cs; omega, by show 0 + (2 * (gc cs no - cs)) ≤ 2 * (gc cs no - cs); omega⟩) hS hA hP hD [1, 2, 3, 4] [0] rfl rfl (by decide) (by decide) (fun u9 H locs hw hP hD hS => ?_)
  obtain ⟨b1, f1⟩ := u9
  have hP : va_P D vwCl [(bx, .inr (4, [.ref rt, .ref rs, .ref ro, .ref ri, .ref ra, .ref ma])), (rs, .inr (2, [.ref b1, .int (nI no)])), (b1, .inl (k 0, gc cs no, .inl (by_ f1))), (ro, .inr (2, [.ref bo, .int (nI no)])), (bo, .inl (k 0, co, .inl (by_ fo)))] H := hP
  have hD : va_D A [(bx, .inr (4, [.ref rt, .ref rs, .ref ro, .ref ri, .ref ra, .ref ma])), (rs, .inr (2, [.ref b1, .int (nI no)])), (b1, .inl (k 0, gc cs no, .inl (by_ f1))), (ro, .inr (2, [.ref bo, .int (nI no)])), (bo, .inl (k 0, co, .inl (by_ fo)))] := hD
  refine lv_aload_n hx hb dBx_keep_11 rfl (lv_at hl 0 rfl) ?_
  refine va_get (D := D) (ci := 4) (v := .ref rs) (C := R_Bx) (T := T_Bx) (N := 6) hx hb hts in_Bx hown hK hP 0 rfl rfl 1 (by decide) (hts _ gm_168) (fun _ h9 => h9) rfl dBx_keep_12 ?_
  refine va_getN (D := D) (ci := 2) (v := .int (nI no)) (C := R_Rw) (T := T_Rw) (N := 2) hx hb hts in_Rw hown hK hP 1 rfl rfl 1 (by decide) (hG.nest gn_3 rfl) (fun _ h9 => h9) rfl dBx_keep_15 ?_
  refine W.widen (k := gc cs no - cs) (n := 2 * (gc cs no - cs)) (by omega) (by omega) ?_
  exact W.iret (v := nI no) hx hb hr (fun t ht hW => ⟨⟨nI no, (b1, f1), rfl, ⟨rfl, hw⟩, by rw [ht]; exact hP, hD⟩, hS.F ht⟩) hS.2.2 dBx_keep_18
set_option maxHeartbeats 600000 in
set_option maxRecDepth 100000 in
theorem c_result (l : Launch) (D : va_G) (k : Nat → ClassId) (tb : Nat → Nat) (sz : Nat) (bx rt rs ro ri ra ma : Nat) (bo no co : Nat) (fo : Nat → Int8) (ho0 : 0 < co) (ho1 : co ≤ 100000) (ho2 : no ≤ co) (i : Nat) (hi : i < no) : Met l yBx_result wBx_result ({ frames := 0, cells := 0, slots := 0, locals := 0 }) (cP D k tb [(bx, .inr (4, [.ref rt, .ref rs, .ref ro, .ref ri, .ref ra, .ref ma])), (ro, .inr (2, [.ref bo, .int (nI no)])), (bo, .inl (k 0, co, .inl (by_ fo)))] sz [.ref bx, .int (nI i)]) (va_Qi (fun (r : Int32) (u : Unit) => r = (fo i).toInt32 &&& 255) (fun (u : Unit) (t : State) => va_P D vwCl [(bx, .inr (4, [.ref rt, .ref rs, .ref ro, .ref ri, .ref ra, .ref ma])), (ro, .inr (2, [.ref bo, .int (nI no)])), (bo, .inl (k 0, co, .inl (by_ fo)))] t.heap ∧ va_D (va_A [(bx, .inr (4, [.ref rt, .ref rs, .ref ro, .ref ri, .ref ra, .ref ma])), (ro, .inr (2, [.ref bo, .int (nI no)])), (bo, .inl (k 0, co, .inl (by_ fo)))] sz) [(bx, .inr (4, [.ref rt, .ref rs, .ref ro, .ref ri, .ref ra, .ref ma])), (ro, .inr (2, [.ref bo, .int (nI no)])), (bo, .inl (k 0, co, .inl (by_ fo)))]) (va_A [(bx, .inr (4, [.ref rt, .ref rs, .ref ro, .ref ri, .ref ra, .ref ma])), (ro, .inr (2, [.ref bo, .int (nI no)])), (bo, .inl (k 0, co, .inl (by_ fo)))] sz)) (0) (0) (va_A [(bx, .inr (4, [.ref rt, .ref rs, .ref ro, .ref ri, .ref ra, .ref ma])), (ro, .inr (2, [.ref bo, .int (nI no)])), (bo, .inl (k 0, co, .inl (by_ fo)))] sz) := by
  refine Met.ofW (cc := cBx_result) (maxL := 2) (ret := (some .int)) (by decide) rfl ?_
  intro p e s m args below meth c s₁ B hml hv
  obtain ⟨rfl, hsz, hP, hK, hD0, hG⟩ := hv
  have hx := B.exec
  have hb := B.bytes
  have hr := B.returns
  have hts : ∀ w ∈ GT, w.before _ s = true := fun w h => atoms_spec (ws := wBx_result) B.pre w (List.mem_cons_of_mem _ h)
  have hown : s.vm.findClass R_Bx = some m.cls := findClass_of_methodNamed B.named
  have hlocks := B.notSynchronized
  subst hsz
  have hD := hD0.self (sz := s.heap.size)
  generalize hAe : va_A [(bx, .inr (4, [.ref rt, .ref rs, .ref ro, .ref ri, .ref ra, .ref ma])), (ro, .inr (2, [.ref bo, .int (nI no)])), (bo, .inl (k 0, co, .inl (by_ fo)))] s.heap.size = A at hD hG ⊢
  have hA : ∀ q : Nat, s.heap.size ≤ q → A q := fun q h => by rw [← hAe]; exact Or.inr h
  have hl := lv_entry ([.ref bx, .int (nI i)]) (n := 2) (Nat.le_of_ble_eq_true rfl)
  rw [lg_entry_eq]
  generalize (lg_sl ([.ref bx, .int (nI i)]) ++ List.replicate (2 - (lg_sl ([.ref bx, .int (nI i)])).length) Slot.unset).toArray = ls at hl ⊢
  have hl : lv_has ls 2 [(0, .ref bx), (1, .int (nI i))] := hl
  refine cw_start (A := A) hP (fun H locs hP hS => ?_)
  refine lv_iload_n hx hb dBx_result_0 rfl (lv_at hl 1 rfl) ?_
  refine rz_lt (tgt := 15) hx hb dBx_result_1 (by decide) (by omega) ?_
  refine lv_iload_n hx hb dBx_result_4 rfl (lv_at hl 1 rfl) ?_
  refine lv_aload_n hx hb dBx_result_5 rfl (lv_at hl 0 rfl) ?_
  refine va_get (D := D) (ci := 4) (v := .ref ro) (C := R_Bx) (T := T_Bx) (N := 6) hx hb hts in_Bx hown hK hP 0 rfl rfl 2 (by decide) (hts _ gm_169) (fun _ h9 => h9) rfl dBx_result_6 ?_
  refine va_getN (D := D) (ci := 2) (v := .int (nI no)) (C := R_Rw) (T := T_Rw) (N := 2) hx hb hts in_Rw hown hK hP 1 rfl rfl 1 (by decide) (hG.nest gn_3 rfl) (fun _ h9 => h9) rfl dBx_result_9 ?_
  refine ri_lt (tgt := 23) hx hb dBx_result_12 (by decide) (by omega) (by omega) (fun c_12 => ?_) (fun c_12 => absurd c_12 (by omega))
  refine lv_aload_n hx hb dBx_result_23 rfl (lv_at hl 0 rfl) ?_
  refine va_get (D := D) (ci := 4) (v := .ref ro) (C := R_Bx) (T := T_Bx) (N := 6) hx hb hts in_Bx hown hK hP 0 rfl rfl 2 (by decide) (hts _ gm_169) (fun _ h9 => h9) rfl dBx_result_24 ?_
  refine va_getN (D := D) (ci := 2) (v := .ref bo) (C := R_Rw) (T := T_Rw) (N := 2) hx hb hts in_Rw hown hK hP 1 rfl rfl 0 (by decide) (hG.nest gn_2 rfl) (fun _ h9 => h9) rfl dBx_result_27 ?_
  refine lv_iload_n hx hb dBx_result_30 rfl (lv_at hl 1 rfl) ?_
  refine rb_ld hx hb hK hP 2 0 rfl rfl (by omega) (by omega) dBx_result_31 ?_
  refine lv_sipush (v := 255) hx hb dBx_result_32 (by decide) ?_
  refine lv_iand hx hb dBx_result_35 ?_
  refine W.widen (k := 0) (n := 0) (Nat.le_refl _) (Nat.le_refl _) ?_
  exact W.iret (v := ((fo i).toInt32) &&& 255) hx hb hr (fun t ht hW => ⟨⟨((fo i).toInt32) &&& 255, (), rfl, rfl, by rw [ht]; exact hP, hD⟩, hS.F ht⟩) hS.2.2 dBx_result_36
