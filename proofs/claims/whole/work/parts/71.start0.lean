/-! THE START: constants, classes -/
abbrev st_F : List Cond := flatC (Cond.and given_1 narrow_1)
theorem st_in {L : List Cond} {a n : Nat} {g : Nat → Cond} (h : (L.drop a).take n = (List.range n).map g) {j : Nat} (hj : j < n) : g j ∈ L := by
  have h1 : g j ∈ (List.range n).map g := List.mem_map.mpr ⟨j, List.mem_range.mpr hj, rfl⟩
  rw [← h] at h1
  exact List.mem_of_mem_drop (List.mem_of_mem_take h1)
set_option maxRecDepth 100000 in
theorem st_e0 : (st_F.drop 7).take 8 = (List.range 8).map (fun j => Cond.eq (.elem (.static "DigestBox" "SHA_256_START" "[J") (.int (Int32.ofNat j))) (.long (i256 j))) := by decide +kernel
set_option maxRecDepth 100000 in
theorem st_t0 {args : Array Value} {s : State} {A : Nat → Prop} (h1 : ∀ w ∈ tables_1_1, w.before args s = true) (h2 : ∀ w ∈ tables_1_2, w.before args s = true) (h3 : ∀ w ∈ tables_1_3, w.before args s = true) (h4 : ∀ w ∈ tables_1_4, w.before args s = true) (h5 : ∀ w ∈ tables_1_5, w.before args s = true) (hs : ∀ c ∈ st_F, c.before args s = true) (hA : ∀ a : Nat, a < s.heap.size → ¬ A a) : ∃ t : Nat, va_Z "DigestBox" "SHA_256_START" "[J" (.ref t) A s s.heap ∧ va_T .long t 8 (fun j => .long (i256 j)) A s s.heap := by
  obtain ⟨t, e, h⟩ := va_Tof (tm := (.static "DigestBox" "SHA_256_START" "[J")) (ty := .long) (N := 8) (f := fun j => .long (i256 j)) (A := A) (by decide) (hs _ (by decide +kernel)) (va_eqt (hs _ (by decide +kernel))) (fun j hj => va_eqtl (hs _ (st_in st_e0 hj))) hA
  exact ⟨t, va_Zref (h1 _ (List.mem_of_getElem? (i := 58) rfl)) (h1 _ (List.mem_of_getElem? (i := 1) rfl)) e hA, h⟩
set_option maxRecDepth 100000 in
theorem st_e1 : (st_F.drop 18).take 8 = (List.range 8).map (fun j => Cond.eq (.elem (.static "DigestBox" "SHA_384_START" "[J") (.int (Int32.ofNat j))) (.long (i384 j))) := by decide +kernel
set_option maxRecDepth 100000 in
theorem st_t1 {args : Array Value} {s : State} {A : Nat → Prop} (h1 : ∀ w ∈ tables_1_1, w.before args s = true) (h2 : ∀ w ∈ tables_1_2, w.before args s = true) (h3 : ∀ w ∈ tables_1_3, w.before args s = true) (h4 : ∀ w ∈ tables_1_4, w.before args s = true) (h5 : ∀ w ∈ tables_1_5, w.before args s = true) (hs : ∀ c ∈ st_F, c.before args s = true) (hA : ∀ a : Nat, a < s.heap.size → ¬ A a) : ∃ t : Nat, va_Z "DigestBox" "SHA_384_START" "[J" (.ref t) A s s.heap ∧ va_T .long t 8 (fun j => .long (i384 j)) A s s.heap := by
  obtain ⟨t, e, h⟩ := va_Tof (tm := (.static "DigestBox" "SHA_384_START" "[J")) (ty := .long) (N := 8) (f := fun j => .long (i384 j)) (A := A) (by decide) (hs _ (by decide +kernel)) (va_eqt (hs _ (by decide +kernel))) (fun j hj => va_eqtl (hs _ (st_in st_e1 hj))) hA
  exact ⟨t, va_Zref (h1 _ (List.mem_of_getElem? (i := 117) rfl)) (h1 _ (List.mem_of_getElem? (i := 1) rfl)) e hA, h⟩
set_option maxRecDepth 100000 in
theorem st_e2 : (st_F.drop 29).take 8 = (List.range 8).map (fun j => Cond.eq (.elem (.static "DigestBox" "SHA_512_START" "[J") (.int (Int32.ofNat j))) (.long (i512 j))) := by decide +kernel
set_option maxRecDepth 100000 in
theorem st_t2 {args : Array Value} {s : State} {A : Nat → Prop} (h1 : ∀ w ∈ tables_1_1, w.before args s = true) (h2 : ∀ w ∈ tables_1_2, w.before args s = true) (h3 : ∀ w ∈ tables_1_3, w.before args s = true) (h4 : ∀ w ∈ tables_1_4, w.before args s = true) (h5 : ∀ w ∈ tables_1_5, w.before args s = true) (hs : ∀ c ∈ st_F, c.before args s = true) (hA : ∀ a : Nat, a < s.heap.size → ¬ A a) : ∃ t : Nat, va_Z "DigestBox" "SHA_512_START" "[J" (.ref t) A s s.heap ∧ va_T .long t 8 (fun j => .long (i512 j)) A s s.heap := by
  obtain ⟨t, e, h⟩ := va_Tof (tm := (.static "DigestBox" "SHA_512_START" "[J")) (ty := .long) (N := 8) (f := fun j => .long (i512 j)) (A := A) (by decide) (hs _ (by decide +kernel)) (va_eqt (hs _ (by decide +kernel))) (fun j hj => va_eqtl (hs _ (st_in st_e2 hj))) hA
  exact ⟨t, va_Zref (h1 _ (List.mem_of_getElem? (i := 135) rfl)) (h1 _ (List.mem_of_getElem? (i := 1) rfl)) e hA, h⟩
set_option maxRecDepth 100000 in
theorem st_e3 : (st_F.drop 403).take 6 = (List.range 6).map (fun j => Cond.eq (.elem (.static "DigestBox" "LABEL_PREFIX" "[B") (.int (Int32.ofNat j))) (.int (by_ lblP j))) := by decide +kernel
set_option maxRecDepth 100000 in
theorem st_t3 {args : Array Value} {s : State} {A : Nat → Prop} (h1 : ∀ w ∈ tables_1_1, w.before args s = true) (h2 : ∀ w ∈ tables_1_2, w.before args s = true) (h3 : ∀ w ∈ tables_1_3, w.before args s = true) (h4 : ∀ w ∈ tables_1_4, w.before args s = true) (h5 : ∀ w ∈ tables_1_5, w.before args s = true) (hs : ∀ c ∈ st_F, c.before args s = true) (hA : ∀ a : Nat, a < s.heap.size → ¬ A a) : ∃ t : Nat, va_Z "DigestBox" "LABEL_PREFIX" "[B" (.ref t) A s s.heap ∧ va_T .byte t 6 (fun j => .int (by_ lblP j)) A s s.heap := by
  obtain ⟨t, e, h⟩ := va_Tof (tm := (.static "DigestBox" "LABEL_PREFIX" "[B")) (ty := .byte) (N := 6) (f := fun j => .int (by_ lblP j)) (A := A) (by decide) (hs _ (by decide +kernel)) (va_eqt (hs _ (by decide +kernel))) (fun j hj => va_eqt (hs _ (st_in st_e3 hj))) hA
  exact ⟨t, va_Zref (h4 _ (List.mem_of_getElem? (i := 79) rfl)) (h1 _ (List.mem_of_getElem? (i := 1) rfl)) e hA, h⟩
set_option maxRecDepth 100000 in
theorem st_e4 : (st_F.drop 42).take 64 = (List.range 64).map (fun j => Cond.eq (.elem (.static "DigestBox$NarrowSha" "ROUND_CONSTANTS" "[I") (.int (Int32.ofNat j))) (.int (kN j))) := by decide +kernel
set_option maxRecDepth 100000 in
theorem st_t4 {args : Array Value} {s : State} {A : Nat → Prop} (h1 : ∀ w ∈ tables_1_1, w.before args s = true) (h2 : ∀ w ∈ tables_1_2, w.before args s = true) (h3 : ∀ w ∈ tables_1_3, w.before args s = true) (h4 : ∀ w ∈ tables_1_4, w.before args s = true) (h5 : ∀ w ∈ tables_1_5, w.before args s = true) (hs : ∀ c ∈ st_F, c.before args s = true) (hA : ∀ a : Nat, a < s.heap.size → ¬ A a) : ∃ t : Nat, va_Z "DigestBox$NarrowSha" "ROUND_CONSTANTS" "[I" (.ref t) A s s.heap ∧ va_T .int t 64 (fun j => .int (kN j)) A s s.heap := by
  obtain ⟨t, e, h⟩ := va_Tof (tm := (.static "DigestBox$NarrowSha" "ROUND_CONSTANTS" "[I")) (ty := .int) (N := 64) (f := fun j => .int (kN j)) (A := A) (by decide) (hs _ (by decide +kernel)) (va_eqt (hs _ (by decide +kernel))) (fun j hj => va_eqt (hs _ (st_in st_e4 hj))) hA
  exact ⟨t, va_Zref (h2 _ (List.mem_of_getElem? (i := 174) rfl)) (h1 _ (List.mem_of_getElem? (i := 4) rfl)) e hA, h⟩
set_option maxRecDepth 100000 in
theorem st_e5 : (st_F.drop 109).take 80 = (List.range 80).map (fun j => Cond.eq (.elem (.static "DigestBox$WideSha" "ROUND_CONSTANTS" "[J") (.int (Int32.ofNat j))) (.long (kW j))) := by decide +kernel
set_option maxRecDepth 100000 in
theorem st_t5 {args : Array Value} {s : State} {A : Nat → Prop} (h1 : ∀ w ∈ tables_1_1, w.before args s = true) (h2 : ∀ w ∈ tables_1_2, w.before args s = true) (h3 : ∀ w ∈ tables_1_3, w.before args s = true) (h4 : ∀ w ∈ tables_1_4, w.before args s = true) (h5 : ∀ w ∈ tables_1_5, w.before args s = true) (hs : ∀ c ∈ st_F, c.before args s = true) (hA : ∀ a : Nat, a < s.heap.size → ¬ A a) : ∃ t : Nat, va_Z "DigestBox$WideSha" "ROUND_CONSTANTS" "[J" (.ref t) A s s.heap ∧ va_T .long t 80 (fun j => .long (kW j)) A s s.heap := by
  obtain ⟨t, e, h⟩ := va_Tof (tm := (.static "DigestBox$WideSha" "ROUND_CONSTANTS" "[J")) (ty := .long) (N := 80) (f := fun j => .long (kW j)) (A := A) (by decide) (hs _ (by decide +kernel)) (va_eqt (hs _ (by decide +kernel))) (fun j hj => va_eqtl (hs _ (st_in st_e5 hj))) hA
  exact ⟨t, va_Zref (h2 _ (List.mem_of_getElem? (i := 186) rfl)) (h1 _ (List.mem_of_getElem? (i := 6) rfl)) e hA, h⟩
set_option maxRecDepth 100000 in
theorem st_z0 {args : Array Value} {s : State} {A : Nat → Prop} (h1 : ∀ w ∈ tables_1_1, w.before args s = true) (h2 : ∀ w ∈ tables_1_2, w.before args s = true) (h3 : ∀ w ∈ tables_1_3, w.before args s = true) (h4 : ∀ w ∈ tables_1_4, w.before args s = true) (h5 : ∀ w ∈ tables_1_5, w.before args s = true) (hs : ∀ c ∈ st_F, c.before args s = true) (hA : ∀ a : Nat, a < s.heap.size → ¬ A a) : vx_Zq "java/lang/Throwable" "UNASSIGNED_STACK" "[Ljava/lang/StackTraceElement;" A s s.heap := vx_Zqof (h2 _ (List.mem_of_getElem? (i := 24) rfl)) (h1 _ (List.mem_of_getElem? (i := 9) rfl)) (hs _ (by decide +kernel)) hA
set_option maxRecDepth 100000 in
theorem st_z1 {args : Array Value} {s : State} {A : Nat → Prop} (h1 : ∀ w ∈ tables_1_1, w.before args s = true) (h2 : ∀ w ∈ tables_1_2, w.before args s = true) (h3 : ∀ w ∈ tables_1_3, w.before args s = true) (h4 : ∀ w ∈ tables_1_4, w.before args s = true) (h5 : ∀ w ∈ tables_1_5, w.before args s = true) (hs : ∀ c ∈ st_F, c.before args s = true) (hA : ∀ a : Nat, a < s.heap.size → ¬ A a) : vx_Zq "java/lang/Throwable" "SUPPRESSED_SENTINEL" "Ljava/util/List;" A s s.heap := vx_Zqof (h2 _ (List.mem_of_getElem? (i := 26) rfl)) (h1 _ (List.mem_of_getElem? (i := 9) rfl)) (hs _ (by decide +kernel)) hA
theorem st_gOk {args : Array Value} {s : State} {A : Nat → Prop} (h1 : ∀ w ∈ tables_1_1, w.before args s = true) (h2 : ∀ w ∈ tables_1_2, w.before args s = true) (h3 : ∀ w ∈ tables_1_3, w.before args s = true) (h4 : ∀ w ∈ tables_1_4, w.before args s = true) (h5 : ∀ w ∈ tables_1_5, w.before args s = true) (hs : ∀ c ∈ st_F, c.before args s = true) (hA : ∀ a : Nat, a < s.heap.size → ¬ A a) : ∃ tb : Nat → Nat, gOk tb A s := by
  obtain ⟨t0, z0⟩ := st_t0 h1 h2 h3 h4 h5 hs hA
  obtain ⟨t1, z1⟩ := st_t1 h1 h2 h3 h4 h5 hs hA
  obtain ⟨t2, z2⟩ := st_t2 h1 h2 h3 h4 h5 hs hA
  obtain ⟨t3, z3⟩ := st_t3 h1 h2 h3 h4 h5 hs hA
  obtain ⟨t4, z4⟩ := st_t4 h1 h2 h3 h4 h5 hs hA
  obtain ⟨t5, z5⟩ := st_t5 h1 h2 h3 h4 h5 hs hA
  exact ⟨fun n => [t0, t1, t2, t3, t4, t5].getD n 0, st_warm h1 h2 h3 h4 h5, ⟨z0, z1, z2, z3, z4, z5, st_z0 h1 h2 h3 h4 h5 hs hA, st_z1 h1 h2 h3 h4 h5 hs hA⟩, va_AO.of (h1 _ (List.mem_of_getElem? (i := 54) rfl)), va_AO.of (h1 _ (List.mem_of_getElem? (i := 137) rfl))⟩
theorem st_arr {args : Array Value} {s : State} {ty : FieldType} (h : (Cond.arrayClass ty).before args s = true) : ∃ cA : ClassId, ArrOfT s cA ty ∧ s.vm.findClass ("[" ++ ty.toString) = some cA := by
  obtain ⟨cA, kA, comp, h1, h2, h3⟩ := Cond.arrayClass_spec h
  exact ⟨cA, fun n z => ⟨fun k h => (by cases h), kA, h2, comp, h3⟩, h1⟩
theorem st_arrO {s : State} {C : String} (h : va_AO C s) : ∃ cA : ClassId, ArrOfT s cA (.object C) ∧ va_RA s cA (.object C) := by
  obtain ⟨comp, cA, kA, f4, -, f2, f3, f1⟩ := Cond.arrayOver_spec (va_AO.use (A := #[]) h)
  exact ⟨cA, fun N z => ⟨(fun k h => by cases h), kA, f2, comp, f3⟩, kA, comp, f2, f3, f4, f1⟩
theorem st_K {args : Array Value} {s : State} (h1 : ∀ w ∈ tables_1_1, w.before args s = true) (h2 : ∀ w ∈ tables_1_2, w.before args s = true) (h3 : ∀ w ∈ tables_1_3, w.before args s = true) (h4 : ∀ w ∈ tables_1_4, w.before args s = true) (h5 : ∀ w ∈ tables_1_5, w.before args s = true) (hts : ∀ w ∈ GT, w.before args s = true) : ∃ (D : va_G) (k : Nat → ClassId), va_K D vwCl (ty0 k) s := by
  obtain ⟨c0, i0, k0⟩ := u_known (C := R_Mc) (T := T_Mc) (N := 6) hts in_Mc (hts _ gm_150)
  obtain ⟨c1, i1, k1⟩ := u_known (C := R_Ns) (T := T_Ns) (N := 9) hts in_Ns (hts _ gm_87)
  obtain ⟨c2, i2, k2⟩ := u_known (C := R_Rw) (T := T_Rw) (N := 2) hts in_Rw (hts _ gm_76)
  obtain ⟨c3, i3, k3⟩ := u_known (C := R_Ws) (T := T_Ws) (N := 9) hts in_Ws (hts _ gm_132)
  obtain ⟨c4, i4, k4⟩ := u_known (C := R_Bx) (T := T_Bx) (N := 6) hts in_Bx (hts _ gm_68)
  obtain ⟨c5, i5, k5⟩ := u_known (C := R_Md) (T := T_Md) (N := 21) hts in_Md (hts _ gm_504)
  obtain ⟨a0, b0, d0⟩ := st_arr (hts _ gm_84)
  obtain ⟨a1, b1, d1⟩ := st_arr (hts _ gm_130)
  obtain ⟨a2, b2, d2⟩ := st_arr (hts _ gm_129)
  obtain ⟨a3, b3, d3⟩ := st_arrO (va_AO.of (h1 _ (List.mem_of_getElem? (i := 54) rfl)))
  obtain ⟨a4, b4, d4⟩ := st_arrO (va_AO.of (h1 _ (List.mem_of_getElem? (i := 137) rfl)))
  refine ⟨(fun n => [c0, c1, c2, c3, c4, c5].getD n c0, fun n => [i0, i1, i2, i3, i4, i5].getD n i0), fun n => [a0, a1, a2, a3, a4].getD n a0, fun c q h => ?_, fun j q h => ?_⟩
  · match c, h with
    | 0, h => cases h; exact k0
    | 1, h => cases h; exact k1
    | 2, h => cases h; exact k2
    | 3, h => cases h; exact k3
    | 4, h => cases h; exact k4
    | 5, h => cases h; exact k5
    | c + 6, h => exact absurd h (by simp [vwCl])
  · match j, h with
    | 0, h => cases h; exact ⟨b0, d0⟩
    | 1, h => cases h; exact ⟨b1, d1⟩
    | 2, h => cases h; exact ⟨b2, d2⟩
    | 3, h => cases h; exact ⟨b3, d3⟩
    | 4, h => cases h; exact ⟨b4, d4⟩
    | j + 5, h => exact absurd h (by simp [ty0])
