/-! DigestBox: count -/
set_option maxHeartbeats 600000 in
set_option maxRecDepth 100000 in
theorem c_count0 (l : Launch) (D : va_G) (k : Nat → ClassId) (tb : Nat → Nat) (sz : Nat) (bx rt rs ro ri ra ma : Nat) (bt nt : Nat) : Met l yBx_count wBx_count ({ frames := 0, cells := 0, slots := 0, locals := 0 }) (cP D k tb [(bx, .inr (4, [.ref rt, .ref rs, .ref ro, .ref ri, .ref ra, .ref ma])), (rt, .inr (2, [.ref bt, .int (nI nt)]))] sz [.ref bx, .int (nI 0)]) (va_Qi (fun (r : Int32) (u : Unit) => r = nI nt) (fun (u : Unit) (t : State) => va_P D vwCl [(bx, .inr (4, [.ref rt, .ref rs, .ref ro, .ref ri, .ref ra, .ref ma])), (rt, .inr (2, [.ref bt, .int (nI nt)]))] t.heap ∧ va_D (va_A [(bx, .inr (4, [.ref rt, .ref rs, .ref ro, .ref ri, .ref ra, .ref ma])), (rt, .inr (2, [.ref bt, .int (nI nt)]))] sz) [(bx, .inr (4, [.ref rt, .ref rs, .ref ro, .ref ri, .ref ra, .ref ma])), (rt, .inr (2, [.ref bt, .int (nI nt)]))]) (va_A [(bx, .inr (4, [.ref rt, .ref rs, .ref ro, .ref ri, .ref ra, .ref ma])), (rt, .inr (2, [.ref bt, .int (nI nt)]))] sz)) (0) (0) (va_A [(bx, .inr (4, [.ref rt, .ref rs, .ref ro, .ref ri, .ref ra, .ref ma])), (rt, .inr (2, [.ref bt, .int (nI nt)]))] sz) := by
  refine Met.ofW (cc := cBx_count) (maxL := 2) (ret := (some .int)) (by decide) rfl ?_
  intro p e s m args below meth c s₁ B hml hv
  obtain ⟨rfl, hsz, hP, hK, hD0, hG⟩ := hv
  have hx := B.exec
  have hb := B.bytes
  have hr := B.returns
  have hts : ∀ w ∈ GT, w.before _ s = true := fun w h => atoms_spec (ws := wBx_count) B.pre w (List.mem_cons_of_mem _ h)
  have hown : s.vm.findClass R_Bx = some m.cls := findClass_of_methodNamed B.named
  have hlocks := B.notSynchronized
  subst hsz
  have hD := hD0.self (sz := s.heap.size)
  generalize hAe : va_A [(bx, .inr (4, [.ref rt, .ref rs, .ref ro, .ref ri, .ref ra, .ref ma])), (rt, .inr (2, [.ref bt, .int (nI nt)]))] s.heap.size = A at hD hG ⊢
  have hA : ∀ q : Nat, s.heap.size ≤ q → A q := fun q h => by rw [← hAe]; exact Or.inr h
  have hl := lv_entry ([.ref bx, .int (nI 0)]) (n := 2) (Nat.le_of_ble_eq_true rfl)
  rw [lg_entry_eq]
  generalize (lg_sl ([.ref bx, .int (nI 0)]) ++ List.replicate (2 - (lg_sl ([.ref bx, .int (nI 0)])).length) Slot.unset).toArray = ls at hl ⊢
  have hl : lv_has ls 2 [(0, .ref bx), (1, .int (nI 0))] := hl
  refine cw_start (A := A) hP (fun H locs hP hS => ?_)
  refine lv_iload_n hx hb dBx_count_0 rfl (lv_at hl 1 rfl) ?_
  refine lv_tableIn (tgt := 40) hx hb dBx_count_1 (by decide) (by decide) rfl (by decide) ?_
  refine lv_aload_n hx hb dBx_count_40 rfl (lv_at hl 0 rfl) ?_
  refine va_get (D := D) (ci := 4) (v := .ref rt) (C := R_Bx) (T := T_Bx) (N := 6) hx hb hts in_Bx hown hK hP 0 rfl rfl 0 (by decide) (hts _ gm_167) (fun _ h9 => h9) rfl dBx_count_41 ?_
  refine va_getN (D := D) (ci := 2) (v := .int (nI nt)) (C := R_Rw) (T := T_Rw) (N := 2) hx hb hts in_Rw hown hK hP 1 rfl rfl 1 (by decide) (hG.nest gn_3 rfl) (fun _ h9 => h9) rfl dBx_count_44 ?_
  refine W.widen (k := 0) (n := 0) (Nat.le_refl _) (Nat.le_refl _) ?_
  exact W.iret (v := nI nt) hx hb hr (fun t ht hW => ⟨⟨nI nt, (), rfl, rfl, by rw [ht]; exact hP, hD⟩, hS.F ht⟩) hS.2.2 dBx_count_47
set_option maxHeartbeats 600000 in
set_option maxRecDepth 100000 in
theorem c_count1 (l : Launch) (D : va_G) (k : Nat → ClassId) (tb : Nat → Nat) (sz : Nat) (bx rt rs ro ri ra ma : Nat) (bs ns : Nat) : Met l yBx_count wBx_count ({ frames := 0, cells := 0, slots := 0, locals := 0 }) (cP D k tb [(bx, .inr (4, [.ref rt, .ref rs, .ref ro, .ref ri, .ref ra, .ref ma])), (rs, .inr (2, [.ref bs, .int (nI ns)]))] sz [.ref bx, .int (nI 1)]) (va_Qi (fun (r : Int32) (u : Unit) => r = nI ns) (fun (u : Unit) (t : State) => va_P D vwCl [(bx, .inr (4, [.ref rt, .ref rs, .ref ro, .ref ri, .ref ra, .ref ma])), (rs, .inr (2, [.ref bs, .int (nI ns)]))] t.heap ∧ va_D (va_A [(bx, .inr (4, [.ref rt, .ref rs, .ref ro, .ref ri, .ref ra, .ref ma])), (rs, .inr (2, [.ref bs, .int (nI ns)]))] sz) [(bx, .inr (4, [.ref rt, .ref rs, .ref ro, .ref ri, .ref ra, .ref ma])), (rs, .inr (2, [.ref bs, .int (nI ns)]))]) (va_A [(bx, .inr (4, [.ref rt, .ref rs, .ref ro, .ref ri, .ref ra, .ref ma])), (rs, .inr (2, [.ref bs, .int (nI ns)]))] sz)) (0) (0) (va_A [(bx, .inr (4, [.ref rt, .ref rs, .ref ro, .ref ri, .ref ra, .ref ma])), (rs, .inr (2, [.ref bs, .int (nI ns)]))] sz) := by
  refine Met.ofW (cc := cBx_count) (maxL := 2) (ret := (some .int)) (by decide) rfl ?_
  intro p e s m args below meth c s₁ B hml hv
  obtain ⟨rfl, hsz, hP, hK, hD0, hG⟩ := hv
  have hx := B.exec
  have hb := B.bytes
  have hr := B.returns
  have hts : ∀ w ∈ GT, w.before _ s = true := fun w h => atoms_spec (ws := wBx_count) B.pre w (List.mem_cons_of_mem _ h)
  have hown : s.vm.findClass R_Bx = some m.cls := findClass_of_methodNamed B.named
  have hlocks := B.notSynchronized
  subst hsz
  have hD := hD0.self (sz := s.heap.size)
  generalize hAe : va_A [(bx, .inr (4, [.ref rt, .ref rs, .ref ro, .ref ri, .ref ra, .ref ma])), (rs, .inr (2, [.ref bs, .int (nI ns)]))] s.heap.size = A at hD hG ⊢
  have hA : ∀ q : Nat, s.heap.size ≤ q → A q := fun q h => by rw [← hAe]; exact Or.inr h
  have hl := lv_entry ([.ref bx, .int (nI 1)]) (n := 2) (Nat.le_of_ble_eq_true rfl)
  rw [lg_entry_eq]
  generalize (lg_sl ([.ref bx, .int (nI 1)]) ++ List.replicate (2 - (lg_sl ([.ref bx, .int (nI 1)])).length) Slot.unset).toArray = ls at hl ⊢
  have hl : lv_has ls 2 [(0, .ref bx), (1, .int (nI 1))] := hl
  refine cw_start (A := A) hP (fun H locs hP hS => ?_)
  refine lv_iload_n hx hb dBx_count_0 rfl (lv_at hl 1 rfl) ?_
  refine lv_tableIn (tgt := 48) hx hb dBx_count_1 (by decide) (by decide) rfl (by decide) ?_
  refine lv_aload_n hx hb dBx_count_48 rfl (lv_at hl 0 rfl) ?_
  refine va_get (D := D) (ci := 4) (v := .ref rs) (C := R_Bx) (T := T_Bx) (N := 6) hx hb hts in_Bx hown hK hP 0 rfl rfl 1 (by decide) (hts _ gm_168) (fun _ h9 => h9) rfl dBx_count_49 ?_
  refine va_getN (D := D) (ci := 2) (v := .int (nI ns)) (C := R_Rw) (T := T_Rw) (N := 2) hx hb hts in_Rw hown hK hP 1 rfl rfl 1 (by decide) (hG.nest gn_3 rfl) (fun _ h9 => h9) rfl dBx_count_52 ?_
  refine W.widen (k := 0) (n := 0) (Nat.le_refl _) (Nat.le_refl _) ?_
  exact W.iret (v := nI ns) hx hb hr (fun t ht hW => ⟨⟨nI ns, (), rfl, rfl, by rw [ht]; exact hP, hD⟩, hS.F ht⟩) hS.2.2 dBx_count_55
set_option maxHeartbeats 600000 in
set_option maxRecDepth 100000 in
theorem c_count2 (l : Launch) (D : va_G) (k : Nat → ClassId) (tb : Nat → Nat) (sz : Nat) (bx rt rs ro ri ra ma : Nat) (bo no : Nat) : Met l yBx_count wBx_count ({ frames := 0, cells := 0, slots := 0, locals := 0 }) (cP D k tb [(bx, .inr (4, [.ref rt, .ref rs, .ref ro, .ref ri, .ref ra, .ref ma])), (ro, .inr (2, [.ref bo, .int (nI no)]))] sz [.ref bx, .int (nI 2)]) (va_Qi (fun (r : Int32) (u : Unit) => r = nI no) (fun (u : Unit) (t : State) => va_P D vwCl [(bx, .inr (4, [.ref rt, .ref rs, .ref ro, .ref ri, .ref ra, .ref ma])), (ro, .inr (2, [.ref bo, .int (nI no)]))] t.heap ∧ va_D (va_A [(bx, .inr (4, [.ref rt, .ref rs, .ref ro, .ref ri, .ref ra, .ref ma])), (ro, .inr (2, [.ref bo, .int (nI no)]))] sz) [(bx, .inr (4, [.ref rt, .ref rs, .ref ro, .ref ri, .ref ra, .ref ma])), (ro, .inr (2, [.ref bo, .int (nI no)]))]) (va_A [(bx, .inr (4, [.ref rt, .ref rs, .ref ro, .ref ri, .ref ra, .ref ma])), (ro, .inr (2, [.ref bo, .int (nI no)]))] sz)) (0) (0) (va_A [(bx, .inr (4, [.ref rt, .ref rs, .ref ro, .ref ri, .ref ra, .ref ma])), (ro, .inr (2, [.ref bo, .int (nI no)]))] sz) := by
  refine Met.ofW (cc := cBx_count) (maxL := 2) (ret := (some .int)) (by decide) rfl ?_
  intro p e s m args below meth c s₁ B hml hv
  obtain ⟨rfl, hsz, hP, hK, hD0, hG⟩ := hv
  have hx := B.exec
  have hb := B.bytes
  have hr := B.returns
  have hts : ∀ w ∈ GT, w.before _ s = true := fun w h => atoms_spec (ws := wBx_count) B.pre w (List.mem_cons_of_mem _ h)
  have hown : s.vm.findClass R_Bx = some m.cls := findClass_of_methodNamed B.named
  have hlocks := B.notSynchronized
  subst hsz
  have hD := hD0.self (sz := s.heap.size)
  generalize hAe : va_A [(bx, .inr (4, [.ref rt, .ref rs, .ref ro, .ref ri, .ref ra, .ref ma])), (ro, .inr (2, [.ref bo, .int (nI no)]))] s.heap.size = A at hD hG ⊢
  have hA : ∀ q : Nat, s.heap.size ≤ q → A q := fun q h => by rw [← hAe]; exact Or.inr h
  have hl := lv_entry ([.ref bx, .int (nI 2)]) (n := 2) (Nat.le_of_ble_eq_true rfl)
  rw [lg_entry_eq]
  generalize (lg_sl ([.ref bx, .int (nI 2)]) ++ List.replicate (2 - (lg_sl ([.ref bx, .int (nI 2)])).length) Slot.unset).toArray = ls at hl ⊢
  have hl : lv_has ls 2 [(0, .ref bx), (1, .int (nI 2))] := hl
  refine cw_start (A := A) hP (fun H locs hP hS => ?_)
  refine lv_iload_n hx hb dBx_count_0 rfl (lv_at hl 1 rfl) ?_
  refine lv_tableIn (tgt := 56) hx hb dBx_count_1 (by decide) (by decide) rfl (by decide) ?_
  refine lv_aload_n hx hb dBx_count_56 rfl (lv_at hl 0 rfl) ?_
  refine va_get (D := D) (ci := 4) (v := .ref ro) (C := R_Bx) (T := T_Bx) (N := 6) hx hb hts in_Bx hown hK hP 0 rfl rfl 2 (by decide) (hts _ gm_169) (fun _ h9 => h9) rfl dBx_count_57 ?_
  refine va_getN (D := D) (ci := 2) (v := .int (nI no)) (C := R_Rw) (T := T_Rw) (N := 2) hx hb hts in_Rw hown hK hP 1 rfl rfl 1 (by decide) (hG.nest gn_3 rfl) (fun _ h9 => h9) rfl dBx_count_60 ?_
  refine W.widen (k := 0) (n := 0) (Nat.le_refl _) (Nat.le_refl _) ?_
  exact W.iret (v := nI no) hx hb hr (fun t ht hW => ⟨⟨nI no, (), rfl, rfl, by rw [ht]; exact hP, hD⟩, hS.F ht⟩) hS.2.2 dBx_count_63
set_option maxHeartbeats 600000 in
set_option maxRecDepth 100000 in
theorem c_count3 (l : Launch) (D : va_G) (k : Nat → ClassId) (tb : Nat → Nat) (sz : Nat) (bx rt rs ro ri ra ma : Nat) (j nh : Nat) (fr fm : Nat → Option Nat) (h a1 a2 a3 fl mm kb iq si so hm m1 m2 m3 flm : Nat) (tot totm : Int64) (kc bc bcm : Int32) (hfr : fr 0 = some h) (hfm : fm 0 = some mm) : Met l yBx_count wBx_count ({ frames := 1, cells := 0, slots := 0, locals := 21 }) (cP D k tb [(bx, .inr (4, [.ref rt, .ref rs, .ref ro, .ref ri, .ref ra, .ref ma])), (ra, .inl (k 3, 3, .inr (.inr (.inr (.inr fr))))), (ma, .inl (k 4, 3, .inr (.inr (.inr (.inr fm))))), (h, .inr (1, [.ref a1, .ref a2, .int (nI nh), .ref (tb j), .int (nI 4), .int (nI fl), .long tot, .int bc, .ref a3])), (mm, .inr (0, [.ref hm, .ref kb, .ref iq, .ref si, .ref so, .int kc])), (hm, .inr (1, [.ref m1, .ref m2, .int (nI nh), .ref (tb j), .int (nI 4), .int (nI flm), .long totm, .int bcm, .ref m3]))] sz [.ref bx, .int (nI 3)]) (va_Qi (fun (r : Int32) (u : Unit) => r = bc + bcm) (fun (u : Unit) (t : State) => va_P D vwCl [(bx, .inr (4, [.ref rt, .ref rs, .ref ro, .ref ri, .ref ra, .ref ma])), (ra, .inl (k 3, 3, .inr (.inr (.inr (.inr fr))))), (ma, .inl (k 4, 3, .inr (.inr (.inr (.inr fm))))), (h, .inr (1, [.ref a1, .ref a2, .int (nI nh), .ref (tb j), .int (nI 4), .int (nI fl), .long tot, .int bc, .ref a3])), (mm, .inr (0, [.ref hm, .ref kb, .ref iq, .ref si, .ref so, .int kc])), (hm, .inr (1, [.ref m1, .ref m2, .int (nI nh), .ref (tb j), .int (nI 4), .int (nI flm), .long totm, .int bcm, .ref m3]))] t.heap ∧ va_D (va_A [(bx, .inr (4, [.ref rt, .ref rs, .ref ro, .ref ri, .ref ra, .ref ma])), (ra, .inl (k 3, 3, .inr (.inr (.inr (.inr fr))))), (ma, .inl (k 4, 3, .inr (.inr (.inr (.inr fm))))), (h, .inr (1, [.ref a1, .ref a2, .int (nI nh), .ref (tb j), .int (nI 4), .int (nI fl), .long tot, .int bc, .ref a3])), (mm, .inr (0, [.ref hm, .ref kb, .ref iq, .ref si, .ref so, .int kc])), (hm, .inr (1, [.ref m1, .ref m2, .int (nI nh), .ref (tb j), .int (nI 4), .int (nI flm), .long totm, .int bcm, .ref m3]))] sz) [(bx, .inr (4, [.ref rt, .ref rs, .ref ro, .ref ri, .ref ra, .ref ma])), (ra, .inl (k 3, 3, .inr (.inr (.inr (.inr fr))))), (ma, .inl (k 4, 3, .inr (.inr (.inr (.inr fm))))), (h, .inr (1, [.ref a1, .ref a2, .int (nI nh), .ref (tb j), .int (nI 4), .int (nI fl), .long tot, .int bc, .ref a3])), (mm, .inr (0, [.ref hm, .ref kb, .ref iq, .ref si, .ref so, .int kc])), (hm, .inr (1, [.ref m1, .ref m2, .int (nI nh), .ref (tb j), .int (nI 4), .int (nI flm), .long totm, .int bcm, .ref m3]))]) (va_A [(bx, .inr (4, [.ref rt, .ref rs, .ref ro, .ref ri, .ref ra, .ref ma])), (ra, .inl (k 3, 3, .inr (.inr (.inr (.inr fr))))), (ma, .inl (k 4, 3, .inr (.inr (.inr (.inr fm))))), (h, .inr (1, [.ref a1, .ref a2, .int (nI nh), .ref (tb j), .int (nI 4), .int (nI fl), .long tot, .int bc, .ref a3])), (mm, .inr (0, [.ref hm, .ref kb, .ref iq, .ref si, .ref so, .int kc])), (hm, .inr (1, [.ref m1, .ref m2, .int (nI nh), .ref (tb j), .int (nI 4), .int (nI flm), .long totm, .int bcm, .ref m3]))] sz)) (0) (0) (va_A [(bx, .inr (4, [.ref rt, .ref rs, .ref ro, .ref ri, .ref ra, .ref ma])), (ra, .inl (k 3, 3, .inr (.inr (.inr (.inr fr))))), (ma, .inl (k 4, 3, .inr (.inr (.inr (.inr fm))))), (h, .inr (1, [.ref a1, .ref a2, .int (nI nh), .ref (tb j), .int (nI 4), .int (nI fl), .long tot, .int bc, .ref a3])), (mm, .inr (0, [.ref hm, .ref kb, .ref iq, .ref si, .ref so, .int kc])), (hm, .inr (1, [.ref m1, .ref m2, .int (nI nh), .ref (tb j), .int (nI 4), .int (nI flm), .long totm, .int bcm, .ref m3]))] sz) := by
  refine Met.ofW (cc := cBx_count) (maxL := 2) (ret := (some .int)) (by decide) rfl ?_
  intro p e s m args below meth c s₁ B hml hv
  obtain ⟨rfl, hsz, hP, hK, hD0, hG⟩ := hv
  have hx := B.exec
  have hb := B.bytes
  have hr := B.returns
  have hts : ∀ w ∈ GT, w.before _ s = true := fun w h => atoms_spec (ws := wBx_count) B.pre w (List.mem_cons_of_mem _ h)
  have hown : s.vm.findClass R_Bx = some m.cls := findClass_of_methodNamed B.named
  have hlocks := B.notSynchronized
  subst hsz
  have hD := hD0.self (sz := s.heap.size)
  generalize hAe : va_A [(bx, .inr (4, [.ref rt, .ref rs, .ref ro, .ref ri, .ref ra, .ref ma])), (ra, .inl (k 3, 3, .inr (.inr (.inr (.inr fr))))), (ma, .inl (k 4, 3, .inr (.inr (.inr (.inr fm))))), (h, .inr (1, [.ref a1, .ref a2, .int (nI nh), .ref (tb j), .int (nI 4), .int (nI fl), .long tot, .int bc, .ref a3])), (mm, .inr (0, [.ref hm, .ref kb, .ref iq, .ref si, .ref so, .int kc])), (hm, .inr (1, [.ref m1, .ref m2, .int (nI nh), .ref (tb j), .int (nI 4), .int (nI flm), .long totm, .int bcm, .ref m3]))] s.heap.size = A at hD hG ⊢
  have hA : ∀ q : Nat, s.heap.size ≤ q → A q := fun q h => by rw [← hAe]; exact Or.inr h
  have hl := lv_entry ([.ref bx, .int (nI 3)]) (n := 2) (Nat.le_of_ble_eq_true rfl)
  rw [lg_entry_eq]
  generalize (lg_sl ([.ref bx, .int (nI 3)]) ++ List.replicate (2 - (lg_sl ([.ref bx, .int (nI 3)])).length) Slot.unset).toArray = ls at hl ⊢
  have hl : lv_has ls 2 [(0, .ref bx), (1, .int (nI 3))] := hl
  refine cw_start (A := A) hP (fun H locs hP hS => ?_)
  refine lv_iload_n hx hb dBx_count_0 rfl (lv_at hl 1 rfl) ?_
  refine lv_tableIn (tgt := 64) hx hb dBx_count_1 (by decide) (by decide) rfl (by decide) ?_
  refine lv_aload_n hx hb dBx_count_64 rfl (lv_at hl 0 rfl) ?_
  refine lv_iconst (v := nI 0) hx hb dBx_count_65 (by decide) ?_
  refine rc_i (wr := []) (va_runV (As := [.int (nI 0)]) (rest := []) ⟨hx, hb, hml, hown, hts⟩ (c_blocksOfN l D k tb H.size bx rt rs ro ri ra ma 0 j nh (by decide) fr fm h a1 a2 a3 fl mm kb iq si so hm m1 m2 m3 flm tot totm kc bc bcm hfr hfm) (cwV 1 hts (gV gm_213 gm_214 gm_3 gm_50 gm_215) rfl rfl rfl (by decide +kernel) ⟨Nat.le_of_ble_eq_true rfl, Nat.le_of_ble_eq_true rfl⟩) (cP_V hP hD hK hG hS hA [0, 1, 2, 3, 4, 5] (by decide) rfl (ci := 4) (q0 := 0) rfl rfl) rfl rfl hl.1 rfl (lv_room (Nat.le_of_ble_eq_true rfl)) dBx_count_66 ⟨Nat.le_of_ble_eq_true rfl, Nat.le_of_ble_eq_true rfl⟩) hS hA hP hD [0, 1, 2, 3, 4, 5] [] rfl rfl (by decide) (by decide) (fun r1 u H locs hw hP hD hS => ?_)
  have hP : va_P D vwCl [(bx, .inr (4, [.ref rt, .ref rs, .ref ro, .ref ri, .ref ra, .ref ma])), (ra, .inl (k 3, 3, .inr (.inr (.inr (.inr fr))))), (ma, .inl (k 4, 3, .inr (.inr (.inr (.inr fm))))), (h, .inr (1, [.ref a1, .ref a2, .int (nI nh), .ref (tb j), .int (nI 4), .int (nI fl), .long tot, .int bc, .ref a3])), (mm, .inr (0, [.ref hm, .ref kb, .ref iq, .ref si, .ref so, .int kc])), (hm, .inr (1, [.ref m1, .ref m2, .int (nI nh), .ref (tb j), .int (nI 4), .int (nI flm), .long totm, .int bcm, .ref m3]))] H := hP
  have hD : va_D A [(bx, .inr (4, [.ref rt, .ref rs, .ref ro, .ref ri, .ref ra, .ref ma])), (ra, .inl (k 3, 3, .inr (.inr (.inr (.inr fr))))), (ma, .inl (k 4, 3, .inr (.inr (.inr (.inr fm))))), (h, .inr (1, [.ref a1, .ref a2, .int (nI nh), .ref (tb j), .int (nI 4), .int (nI fl), .long tot, .int bc, .ref a3])), (mm, .inr (0, [.ref hm, .ref kb, .ref iq, .ref si, .ref so, .int kc])), (hm, .inr (1, [.ref m1, .ref m2, .int (nI nh), .ref (tb j), .int (nI 4), .int (nI flm), .long totm, .int bcm, .ref m3]))] := hD
  subst hw
  refine W.widen (k := 0) (n := 0) (Nat.le_refl _) (Nat.le_refl _) ?_
  exact W.iret (v := bc + bcm) hx hb hr (fun t ht hW => ⟨⟨bc + bcm, (), rfl, rfl, by rw [ht]; exact hP, hD⟩, hS.F ht⟩) hS.2.2 dBx_count_69
set_option maxHeartbeats 600000 in
set_option maxRecDepth 100000 in
theorem c_count4 (l : Launch) (D : va_G) (k : Nat → ClassId) (tb : Nat → Nat) (sz : Nat) (bx rt rs ro ri ra ma : Nat) (j nh : Nat) (fr fm : Nat → Option Nat) (h a1 a2 a3 fl mm kb iq si so hm m1 m2 m3 flm : Nat) (tot totm : Int64) (kc bc bcm : Int32) (hfr : fr 1 = some h) (hfm : fm 1 = some mm) : Met l yBx_count wBx_count ({ frames := 1, cells := 0, slots := 0, locals := 21 }) (cP D k tb [(bx, .inr (4, [.ref rt, .ref rs, .ref ro, .ref ri, .ref ra, .ref ma])), (ra, .inl (k 3, 3, .inr (.inr (.inr (.inr fr))))), (ma, .inl (k 4, 3, .inr (.inr (.inr (.inr fm))))), (h, .inr (3, [.ref a1, .ref a2, .int (nI nh), .ref (tb j), .int (nI 8), .int (nI fl), .long tot, .int bc, .ref a3])), (mm, .inr (0, [.ref hm, .ref kb, .ref iq, .ref si, .ref so, .int kc])), (hm, .inr (3, [.ref m1, .ref m2, .int (nI nh), .ref (tb j), .int (nI 8), .int (nI flm), .long totm, .int bcm, .ref m3]))] sz [.ref bx, .int (nI 4)]) (va_Qi (fun (r : Int32) (u : Unit) => r = bc + bcm) (fun (u : Unit) (t : State) => va_P D vwCl [(bx, .inr (4, [.ref rt, .ref rs, .ref ro, .ref ri, .ref ra, .ref ma])), (ra, .inl (k 3, 3, .inr (.inr (.inr (.inr fr))))), (ma, .inl (k 4, 3, .inr (.inr (.inr (.inr fm))))), (h, .inr (3, [.ref a1, .ref a2, .int (nI nh), .ref (tb j), .int (nI 8), .int (nI fl), .long tot, .int bc, .ref a3])), (mm, .inr (0, [.ref hm, .ref kb, .ref iq, .ref si, .ref so, .int kc])), (hm, .inr (3, [.ref m1, .ref m2, .int (nI nh), .ref (tb j), .int (nI 8), .int (nI flm), .long totm, .int bcm, .ref m3]))] t.heap ∧ va_D (va_A [(bx, .inr (4, [.ref rt, .ref rs, .ref ro, .ref ri, .ref ra, .ref ma])), (ra, .inl (k 3, 3, .inr (.inr (.inr (.inr fr))))), (ma, .inl (k 4, 3, .inr (.inr (.inr (.inr fm))))), (h, .inr (3, [.ref a1, .ref a2, .int (nI nh), .ref (tb j), .int (nI 8), .int (nI fl), .long tot, .int bc, .ref a3])), (mm, .inr (0, [.ref hm, .ref kb, .ref iq, .ref si, .ref so, .int kc])), (hm, .inr (3, [.ref m1, .ref m2, .int (nI nh), .ref (tb j), .int (nI 8), .int (nI flm), .long totm, .int bcm, .ref m3]))] sz) [(bx, .inr (4, [.ref rt, .ref rs, .ref ro, .ref ri, .ref ra, .ref ma])), (ra, .inl (k 3, 3, .inr (.inr (.inr (.inr fr))))), (ma, .inl (k 4, 3, .inr (.inr (.inr (.inr fm))))), (h, .inr (3, [.ref a1, .ref a2, .int (nI nh), .ref (tb j), .int (nI 8), .int (nI fl), .long tot, .int bc, .ref a3])), (mm, .inr (0, [.ref hm, .ref kb, .ref iq, .ref si, .ref so, .int kc])), (hm, .inr (3, [.ref m1, .ref m2, .int (nI nh), .ref (tb j), .int (nI 8), .int (nI flm), .long totm, .int bcm, .ref m3]))]) (va_A [(bx, .inr (4, [.ref rt, .ref rs, .ref ro, .ref ri, .ref ra, .ref ma])), (ra, .inl (k 3, 3, .inr (.inr (.inr (.inr fr))))), (ma, .inl (k 4, 3, .inr (.inr (.inr (.inr fm))))), (h, .inr (3, [.ref a1, .ref a2, .int (nI nh), .ref (tb j), .int (nI 8), .int (nI fl), .long tot, .int bc, .ref a3])), (mm, .inr (0, [.ref hm, .ref kb, .ref iq, .ref si, .ref so, .int kc])), (hm, .inr (3, [.ref m1, .ref m2, .int (nI nh), .ref (tb j), .int (nI 8), .int (nI flm), .long totm, .int bcm, .ref m3]))] sz)) (0) (0) (va_A [(bx, .inr (4, [.ref rt, .ref rs, .ref ro, .ref ri, .ref ra, .ref ma])), (ra, .inl (k 3, 3, .inr (.inr (.inr (.inr fr))))), (ma, .inl (k 4, 3, .inr (.inr (.inr (.inr fm))))), (h, .inr (3, [.ref a1, .ref a2, .int (nI nh), .ref (tb j), .int (nI 8), .int (nI fl), .long tot, .int bc, .ref a3])), (mm, .inr (0, [.ref hm, .ref kb, .ref iq, .ref si, .ref so, .int kc])), (hm, .inr (3, [.ref m1, .ref m2, .int (nI nh), .ref (tb j), .int (nI 8), .int (nI flm), .long totm, .int bcm, .ref m3]))] sz) := by
  refine Met.ofW (cc := cBx_count) (maxL := 2) (ret := (some .int)) (by decide) rfl ?_
  intro p e s m args below meth c s₁ B hml hv
  obtain ⟨rfl, hsz, hP, hK, hD0, hG⟩ := hv
  have hx := B.exec
  have hb := B.bytes
  have hr := B.returns
  have hts : ∀ w ∈ GT, w.before _ s = true := fun w h => atoms_spec (ws := wBx_count) B.pre w (List.mem_cons_of_mem _ h)
  have hown : s.vm.findClass R_Bx = some m.cls := findClass_of_methodNamed B.named
  have hlocks := B.notSynchronized
  subst hsz
  have hD := hD0.self (sz := s.heap.size)
  generalize hAe : va_A [(bx, .inr (4, [.ref rt, .ref rs, .ref ro, .ref ri, .ref ra, .ref ma])), (ra, .inl (k 3, 3, .inr (.inr (.inr (.inr fr))))), (ma, .inl (k 4, 3, .inr (.inr (.inr (.inr fm))))), (h, .inr (3, [.ref a1, .ref a2, .int (nI nh), .ref (tb j), .int (nI 8), .int (nI fl), .long tot, .int bc, .ref a3])), (mm, .inr (0, [.ref hm, .ref kb, .ref iq, .ref si, .ref so, .int kc])), (hm, .inr (3, [.ref m1, .ref m2, .int (nI nh), .ref (tb j), .int (nI 8), .int (nI flm), .long totm, .int bcm, .ref m3]))] s.heap.size = A at hD hG ⊢
  have hA : ∀ q : Nat, s.heap.size ≤ q → A q := fun q h => by rw [← hAe]; exact Or.inr h
  have hl := lv_entry ([.ref bx, .int (nI 4)]) (n := 2) (Nat.le_of_ble_eq_true rfl)
  rw [lg_entry_eq]
  generalize (lg_sl ([.ref bx, .int (nI 4)]) ++ List.replicate (2 - (lg_sl ([.ref bx, .int (nI 4)])).length) Slot.unset).toArray = ls at hl ⊢
  have hl : lv_has ls 2 [(0, .ref bx), (1, .int (nI 4))] := hl
  refine cw_start (A := A) hP (fun H locs hP hS => ?_)
  refine lv_iload_n hx hb dBx_count_0 rfl (lv_at hl 1 rfl) ?_
  refine lv_tableIn (tgt := 70) hx hb dBx_count_1 (by decide) (by decide) rfl (by decide) ?_
  refine lv_aload_n hx hb dBx_count_70 rfl (lv_at hl 0 rfl) ?_
  refine lv_iconst (v := nI 1) hx hb dBx_count_71 (by decide) ?_
  refine rc_i (wr := []) (va_runV (As := [.int (nI 1)]) (rest := []) ⟨hx, hb, hml, hown, hts⟩ (c_blocksOfW l D k tb H.size bx rt rs ro ri ra ma 1 j nh (by decide) fr fm h a1 a2 a3 fl mm kb iq si so hm m1 m2 m3 flm tot totm kc bc bcm hfr hfm) (cwV 1 hts (gV gm_213 gm_214 gm_3 gm_50 gm_215) rfl rfl rfl (by decide +kernel) ⟨Nat.le_of_ble_eq_true rfl, Nat.le_of_ble_eq_true rfl⟩) (cP_V hP hD hK hG hS hA [0, 1, 2, 3, 4, 5] (by decide) rfl (ci := 4) (q0 := 0) rfl rfl) rfl rfl hl.1 rfl (lv_room (Nat.le_of_ble_eq_true rfl)) dBx_count_72 ⟨Nat.le_of_ble_eq_true rfl, Nat.le_of_ble_eq_true rfl⟩) hS hA hP hD [0, 1, 2, 3, 4, 5] [] rfl rfl (by decide) (by decide) (fun r1 u H locs hw hP hD hS => ?_)
  have hP : va_P D vwCl [(bx, .inr (4, [.ref rt, .ref rs, .ref ro, .ref ri, .ref ra, .ref ma])), (ra, .inl (k 3, 3, .inr (.inr (.inr (.inr fr))))), (ma, .inl (k 4, 3, .inr (.inr (.inr (.inr fm))))), (h, .inr (3, [.ref a1, .ref a2, .int (nI nh), .ref (tb j), .int (nI 8), .int (nI fl), .long tot, .int bc, .ref a3])), (mm, .inr (0, [.ref hm, .ref kb, .ref iq, .ref si, .ref so, .int kc])), (hm, .inr (3, [.ref m1, .ref m2, .int (nI nh), .ref (tb j), .int (nI 8), .int (nI flm), .long totm, .int bcm, .ref m3]))] H := hP
  have hD : va_D A [(bx, .inr (4, [.ref rt, .ref rs, .ref ro, .ref ri, .ref ra, .ref ma])), (ra, .inl (k 3, 3, .inr (.inr (.inr (.inr fr))))), (ma, .inl (k 4, 3, .inr (.inr (.inr (.inr fm))))), (h, .inr (3, [.ref a1, .ref a2, .int (nI nh), .ref (tb j), .int (nI 8), .int (nI fl), .long tot, .int bc, .ref a3])), (mm, .inr (0, [.ref hm, .ref kb, .ref iq, .ref si, .ref so, .int kc])), (hm, .inr (3, [.ref m1, .ref m2, .int (nI nh), .ref (tb j), .int (nI 8), .int (nI flm), .long totm, .int bcm, .ref m3]))] := hD
  subst hw
  refine W.widen (k := 0) (n := 0) (Nat.le_refl _) (Nat.le_refl _) ?_
  exact W.iret (v := bc + bcm) hx hb hr (fun t ht hW => ⟨⟨bc + bcm, (), rfl, rfl, by rw [ht]; exact hP, hD⟩, hS.F ht⟩) hS.2.2 dBx_count_75
set_option maxHeartbeats 600000 in
set_option maxRecDepth 100000 in
theorem c_count5 (l : Launch) (D : va_G) (k : Nat → ClassId) (tb : Nat → Nat) (sz : Nat) (bx rt rs ro ri ra ma : Nat) (j nh : Nat) (fr fm : Nat → Option Nat) (h a1 a2 a3 fl mm kb iq si so hm m1 m2 m3 flm : Nat) (tot totm : Int64) (kc bc bcm : Int32) (hfr : fr 2 = some h) (hfm : fm 2 = some mm) : Met l yBx_count wBx_count ({ frames := 1, cells := 0, slots := 0, locals := 21 }) (cP D k tb [(bx, .inr (4, [.ref rt, .ref rs, .ref ro, .ref ri, .ref ra, .ref ma])), (ra, .inl (k 3, 3, .inr (.inr (.inr (.inr fr))))), (ma, .inl (k 4, 3, .inr (.inr (.inr (.inr fm))))), (h, .inr (3, [.ref a1, .ref a2, .int (nI nh), .ref (tb j), .int (nI 8), .int (nI fl), .long tot, .int bc, .ref a3])), (mm, .inr (0, [.ref hm, .ref kb, .ref iq, .ref si, .ref so, .int kc])), (hm, .inr (3, [.ref m1, .ref m2, .int (nI nh), .ref (tb j), .int (nI 8), .int (nI flm), .long totm, .int bcm, .ref m3]))] sz [.ref bx, .int (nI 5)]) (va_Qi (fun (r : Int32) (u : Unit) => r = bc + bcm) (fun (u : Unit) (t : State) => va_P D vwCl [(bx, .inr (4, [.ref rt, .ref rs, .ref ro, .ref ri, .ref ra, .ref ma])), (ra, .inl (k 3, 3, .inr (.inr (.inr (.inr fr))))), (ma, .inl (k 4, 3, .inr (.inr (.inr (.inr fm))))), (h, .inr (3, [.ref a1, .ref a2, .int (nI nh), .ref (tb j), .int (nI 8), .int (nI fl), .long tot, .int bc, .ref a3])), (mm, .inr (0, [.ref hm, .ref kb, .ref iq, .ref si, .ref so, .int kc])), (hm, .inr (3, [.ref m1, .ref m2, .int (nI nh), .ref (tb j), .int (nI 8), .int (nI flm), .long totm, .int bcm, .ref m3]))] t.heap ∧ va_D (va_A [(bx, .inr (4, [.ref rt, .ref rs, .ref ro, .ref ri, .ref ra, .ref ma])), (ra, .inl (k 3, 3, .inr (.inr (.inr (.inr fr))))), (ma, .inl (k 4, 3, .inr (.inr (.inr (.inr fm))))), (h, .inr (3, [.ref a1, .ref a2, .int (nI nh), .ref (tb j), .int (nI 8), .int (nI fl), .long tot, .int bc, .ref a3])), (mm, .inr (0, [.ref hm, .ref kb, .ref iq, .ref si, .ref so, .int kc])), (hm, .inr (3, [.ref m1, .ref m2, .int (nI nh), .ref (tb j), .int (nI 8), .int (nI flm), .long totm, .int bcm, .ref m3]))] sz) [(bx, .inr (4, [.ref rt, .ref rs, .ref ro, .ref ri, .ref ra, .ref ma])), (ra, .inl (k 3, 3, .inr (.inr (.inr (.inr fr))))), (ma, .inl (k 4, 3, .inr (.inr (.inr (.inr fm))))), (h, .inr (3, [.ref a1, .ref a2, .int (nI nh), .ref (tb j), .int (nI 8), .int (nI fl), .long tot, .int bc, .ref a3])), (mm, .inr (0, [.ref hm, .ref kb, .ref iq, .ref si, .ref so, .int kc])), (hm, .inr (3, [.ref m1, .ref m2, .int (nI nh), .ref (tb j), .int (nI 8), .int (nI flm), .long totm, .int bcm, .ref m3]))]) (va_A [(bx, .inr (4, [.ref rt, .ref rs, .ref ro, .ref ri, .ref ra, .ref ma])), (ra, .inl (k 3, 3, .inr (.inr (.inr (.inr fr))))), (ma, .inl (k 4, 3, .inr (.inr (.inr (.inr fm))))), (h, .inr (3, [.ref a1, .ref a2, .int (nI nh), .ref (tb j), .int (nI 8), .int (nI fl), .long tot, .int bc, .ref a3])), (mm, .inr (0, [.ref hm, .ref kb, .ref iq, .ref si, .ref so, .int kc])), (hm, .inr (3, [.ref m1, .ref m2, .int (nI nh), .ref (tb j), .int (nI 8), .int (nI flm), .long totm, .int bcm, .ref m3]))] sz)) (0) (0) (va_A [(bx, .inr (4, [.ref rt, .ref rs, .ref ro, .ref ri, .ref ra, .ref ma])), (ra, .inl (k 3, 3, .inr (.inr (.inr (.inr fr))))), (ma, .inl (k 4, 3, .inr (.inr (.inr (.inr fm))))), (h, .inr (3, [.ref a1, .ref a2, .int (nI nh), .ref (tb j), .int (nI 8), .int (nI fl), .long tot, .int bc, .ref a3])), (mm, .inr (0, [.ref hm, .ref kb, .ref iq, .ref si, .ref so, .int kc])), (hm, .inr (3, [.ref m1, .ref m2, .int (nI nh), .ref (tb j), .int (nI 8), .int (nI flm), .long totm, .int bcm, .ref m3]))] sz) := by
  refine Met.ofW (cc := cBx_count) (maxL := 2) (ret := (some .int)) (by decide) rfl ?_
  intro p e s m args below meth c s₁ B hml hv
  obtain ⟨rfl, hsz, hP, hK, hD0, hG⟩ := hv
  have hx := B.exec
  have hb := B.bytes
  have hr := B.returns
  have hts : ∀ w ∈ GT, w.before _ s = true := fun w h => atoms_spec (ws := wBx_count) B.pre w (List.mem_cons_of_mem _ h)
  have hown : s.vm.findClass R_Bx = some m.cls := findClass_of_methodNamed B.named
  have hlocks := B.notSynchronized
  subst hsz
  have hD := hD0.self (sz := s.heap.size)
  generalize hAe : va_A [(bx, .inr (4, [.ref rt, .ref rs, .ref ro, .ref ri, .ref ra, .ref ma])), (ra, .inl (k 3, 3, .inr (.inr (.inr (.inr fr))))), (ma, .inl (k 4, 3, .inr (.inr (.inr (.inr fm))))), (h, .inr (3, [.ref a1, .ref a2, .int (nI nh), .ref (tb j), .int (nI 8), .int (nI fl), .long tot, .int bc, .ref a3])), (mm, .inr (0, [.ref hm, .ref kb, .ref iq, .ref si, .ref so, .int kc])), (hm, .inr (3, [.ref m1, .ref m2, .int (nI nh), .ref (tb j), .int (nI 8), .int (nI flm), .long totm, .int bcm, .ref m3]))] s.heap.size = A at hD hG ⊢
  have hA : ∀ q : Nat, s.heap.size ≤ q → A q := fun q h => by rw [← hAe]; exact Or.inr h
  have hl := lv_entry ([.ref bx, .int (nI 5)]) (n := 2) (Nat.le_of_ble_eq_true rfl)
  rw [lg_entry_eq]
  generalize (lg_sl ([.ref bx, .int (nI 5)]) ++ List.replicate (2 - (lg_sl ([.ref bx, .int (nI 5)])).length) Slot.unset).toArray = ls at hl ⊢
  have hl : lv_has ls 2 [(0, .ref bx), (1, .int (nI 5))] := hl
  refine cw_start (A := A) hP (fun H locs hP hS => ?_)
  refine lv_iload_n hx hb dBx_count_0 rfl (lv_at hl 1 rfl) ?_
  refine lv_tableIn (tgt := 76) hx hb dBx_count_1 (by decide) (by decide) rfl (by decide) ?_
  refine lv_aload_n hx hb dBx_count_76 rfl (lv_at hl 0 rfl) ?_
  refine lv_iconst (v := nI 2) hx hb dBx_count_77 (by decide) ?_
  refine rc_i (wr := []) (va_runV (As := [.int (nI 2)]) (rest := []) ⟨hx, hb, hml, hown, hts⟩ (c_blocksOfW l D k tb H.size bx rt rs ro ri ra ma 2 j nh (by decide) fr fm h a1 a2 a3 fl mm kb iq si so hm m1 m2 m3 flm tot totm kc bc bcm hfr hfm) (cwV 1 hts (gV gm_213 gm_214 gm_3 gm_50 gm_215) rfl rfl rfl (by decide +kernel) ⟨Nat.le_of_ble_eq_true rfl, Nat.le_of_ble_eq_true rfl⟩) (cP_V hP hD hK hG hS hA [0, 1, 2, 3, 4, 5] (by decide) rfl (ci := 4) (q0 := 0) rfl rfl) rfl rfl hl.1 rfl (lv_room (Nat.le_of_ble_eq_true rfl)) dBx_count_78 ⟨Nat.le_of_ble_eq_true rfl, Nat.le_of_ble_eq_true rfl⟩) hS hA hP hD [0, 1, 2, 3, 4, 5] [] rfl rfl (by decide) (by decide) (fun r1 u H locs hw hP hD hS => ?_)
  have hP : va_P D vwCl [(bx, .inr (4, [.ref rt, .ref rs, .ref ro, .ref ri, .ref ra, .ref ma])), (ra, .inl (k 3, 3, .inr (.inr (.inr (.inr fr))))), (ma, .inl (k 4, 3, .inr (.inr (.inr (.inr fm))))), (h, .inr (3, [.ref a1, .ref a2, .int (nI nh), .ref (tb j), .int (nI 8), .int (nI fl), .long tot, .int bc, .ref a3])), (mm, .inr (0, [.ref hm, .ref kb, .ref iq, .ref si, .ref so, .int kc])), (hm, .inr (3, [.ref m1, .ref m2, .int (nI nh), .ref (tb j), .int (nI 8), .int (nI flm), .long totm, .int bcm, .ref m3]))] H := hP
  have hD : va_D A [(bx, .inr (4, [.ref rt, .ref rs, .ref ro, .ref ri, .ref ra, .ref ma])), (ra, .inl (k 3, 3, .inr (.inr (.inr (.inr fr))))), (ma, .inl (k 4, 3, .inr (.inr (.inr (.inr fm))))), (h, .inr (3, [.ref a1, .ref a2, .int (nI nh), .ref (tb j), .int (nI 8), .int (nI fl), .long tot, .int bc, .ref a3])), (mm, .inr (0, [.ref hm, .ref kb, .ref iq, .ref si, .ref so, .int kc])), (hm, .inr (3, [.ref m1, .ref m2, .int (nI nh), .ref (tb j), .int (nI 8), .int (nI flm), .long totm, .int bcm, .ref m3]))] := hD
  subst hw
  refine W.widen (k := 0) (n := 0) (Nat.le_refl _) (Nat.le_refl _) ?_
  exact W.iret (v := bc + bcm) hx hb hr (fun t ht hW => ⟨⟨bc + bcm, (), rfl, rfl, by rw [ht]; exact hP, hD⟩, hS.F ht⟩) hS.2.2 dBx_count_81
set_option maxHeartbeats 600000 in
set_option maxRecDepth 100000 in
theorem c_countD (l : Launch) (D : va_G) (k : Nat → ClassId) (tb : Nat → Nat) (sz : Nat) (bx : Nat) (x : Int32) (hq : x.toInt < 0 ∨ 5 < x.toInt) : Met l yBx_count wBx_count ({ frames := 0, cells := 0, slots := 0, locals := 0 }) (cP D k tb [] sz [.ref bx, .int x]) (va_Qi (fun (r : Int32) (u : Unit) => r = -1) (fun (u : Unit) (t : State) => va_P D vwCl [] t.heap ∧ va_D (va_A [] sz) []) (va_A [] sz)) (0) (0) (va_A [] sz) := by
  refine Met.ofW (cc := cBx_count) (maxL := 2) (ret := (some .int)) (by decide) rfl ?_
  intro p e s m args below meth c s₁ B hml hv
  obtain ⟨rfl, hsz, hP, hK, hD0, hG⟩ := hv
  have hx := B.exec
  have hb := B.bytes
  have hr := B.returns
  have hts : ∀ w ∈ GT, w.before _ s = true := fun w h => atoms_spec (ws := wBx_count) B.pre w (List.mem_cons_of_mem _ h)
  have hown : s.vm.findClass R_Bx = some m.cls := findClass_of_methodNamed B.named
  have hlocks := B.notSynchronized
  subst hsz
  have hD := hD0.self (sz := s.heap.size)
  generalize hAe : va_A [] s.heap.size = A at hD hG ⊢
  have hA : ∀ q : Nat, s.heap.size ≤ q → A q := fun q h => by rw [← hAe]; exact Or.inr h
  have hl := lv_entry ([.ref bx, .int x]) (n := 2) (Nat.le_of_ble_eq_true rfl)
  rw [lg_entry_eq]
  generalize (lg_sl ([.ref bx, .int x]) ++ List.replicate (2 - (lg_sl ([.ref bx, .int x])).length) Slot.unset).toArray = ls at hl ⊢
  have hl : lv_has ls 2 [(0, .ref bx), (1, .int x)] := hl
  refine cw_start (A := A) hP (fun H locs hP hS => ?_)
  refine lv_iload_n hx hb dBx_count_0 rfl (lv_at hl 1 rfl) ?_
  refine lv_tableOut (tgt := 82) hx hb dBx_count_1 hq (by decide) ?_
  refine lv_iconst (v := (-1)) hx hb dBx_count_82 (by decide) ?_
  refine W.widen (k := 0) (n := 0) (Nat.le_refl _) (Nat.le_refl _) ?_
  exact W.iret (v := (-1)) hx hb hr (fun t ht hW => ⟨⟨(-1), (), rfl, rfl, by rw [ht]; exact hP, hD⟩, hS.F ht⟩) hS.2.2 dBx_count_83
