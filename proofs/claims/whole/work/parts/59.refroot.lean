/-! THE REFERENCE: times, fits, root, prime, its constructor -/
set_option maxHeartbeats 600000 in
set_option maxRecDepth 100000 in
theorem c_r_times (l : Launch) (D : va_G) (k : Nat → ClassId) (tb : Nat → Nat) (sz : Nat) (mo xt xk xr nt nk nr xu xv xb xw xo xl xp yr ys yw yt yl yc wd : Nat) (th : Int32) (zh zl : Int64) (fl fc : Nat → Int64) (hfl : L32 fl) (hzh : uv zh < 2 ^ 32) : Met l yMd_times wMd_times ({ frames := 0, cells := 0, slots := 0, locals := 0 }) (cP D k tb [(mo, .inr (5, [.int th, .ref xt, .ref xk, .ref xr, .int (nI nt), .int (nI nk), .int (nI nr), .ref xu, .ref xv, .ref xb, .ref xw, .ref xo, .ref xl, .ref xp, .ref yr, .ref ys, .ref yw, .ref yt, .ref yl, .ref yc, .int (nI wd)])), (yl, .inl (k 2, 8, .inr (.inl fl))), (yc, .inl (k 2, 8, .inr (.inl fc)))] sz [.ref mo, .long zh, .long zl]) (va_Qv (fun (u : (Nat → Int64) × (Nat → Int64)) => L32 u.1 ∧ Sg u.1 0 8 = xVal zh zl * Sg fl 0 8 % 2 ^ 256) (fun (u : (Nat → Int64) × (Nat → Int64)) (t : State) => va_P D vwCl [(mo, .inr (5, [.int th, .ref xt, .ref xk, .ref xr, .int (nI nt), .int (nI nk), .int (nI nr), .ref xu, .ref xv, .ref xb, .ref xw, .ref xo, .ref xl, .ref xp, .ref yr, .ref ys, .ref yw, .ref yt, .ref yl, .ref yc, .int (nI wd)])), (yl, .inl (k 2, 8, .inr (.inl u.1))), (yc, .inl (k 2, 8, .inr (.inl u.2)))] t.heap ∧ va_D (va_A [(mo, .inr (5, [.int th, .ref xt, .ref xk, .ref xr, .int (nI nt), .int (nI nk), .int (nI nr), .ref xu, .ref xv, .ref xb, .ref xw, .ref xo, .ref xl, .ref xp, .ref yr, .ref ys, .ref yw, .ref yt, .ref yl, .ref yc, .int (nI wd)])), (yl, .inl (k 2, 8, .inr (.inl fl))), (yc, .inl (k 2, 8, .inr (.inl fc)))] sz) [(mo, .inr (5, [.int th, .ref xt, .ref xk, .ref xr, .int (nI nt), .int (nI nk), .int (nI nr), .ref xu, .ref xv, .ref xb, .ref xw, .ref xo, .ref xl, .ref xp, .ref yr, .ref ys, .ref yw, .ref yt, .ref yl, .ref yc, .int (nI wd)])), (yl, .inl (k 2, 8, .inr (.inl u.1))), (yc, .inl (k 2, 8, .inr (.inl u.2)))]) (va_A [(mo, .inr (5, [.int th, .ref xt, .ref xk, .ref xr, .int (nI nt), .int (nI nk), .int (nI nr), .ref xu, .ref xv, .ref xb, .ref xw, .ref xo, .ref xl, .ref xp, .ref yr, .ref ys, .ref yw, .ref yt, .ref yl, .ref yc, .int (nI wd)])), (yl, .inl (k 2, 8, .inr (.inl fl))), (yc, .inl (k 2, 8, .inr (.inl fc)))] sz)) (0) (0) (va_A [(mo, .inr (5, [.int th, .ref xt, .ref xk, .ref xr, .int (nI nt), .int (nI nk), .int (nI nr), .ref xu, .ref xv, .ref xb, .ref xw, .ref xo, .ref xl, .ref xp, .ref yr, .ref ys, .ref yw, .ref yt, .ref yl, .ref yc, .int (nI wd)])), (yl, .inl (k 2, 8, .inr (.inl fl))), (yc, .inl (k 2, 8, .inr (.inl fc)))] sz) := by
  refine Met.ofW (cc := cMd_times) (maxL := 13) (ret := none) (by decide) rfl ?_
  intro p e s m args below meth c s₁ B hml hv
  obtain ⟨rfl, hsz, hP, hK, hD0, hG⟩ := hv
  have hx := B.exec
  have hb := B.bytes
  have hr := B.returns
  have hts : ∀ w ∈ GT, w.before _ s = true := fun w h => atoms_spec (ws := wMd_times) B.pre w (List.mem_cons_of_mem _ h)
  have hown : s.vm.findClass R_Md = some m.cls := findClass_of_methodNamed B.named
  have hlocks := B.notSynchronized
  subst hsz
  have hD := hD0.self (sz := s.heap.size)
  generalize hAe : va_A [(mo, .inr (5, [.int th, .ref xt, .ref xk, .ref xr, .int (nI nt), .int (nI nk), .int (nI nr), .ref xu, .ref xv, .ref xb, .ref xw, .ref xo, .ref xl, .ref xp, .ref yr, .ref ys, .ref yw, .ref yt, .ref yl, .ref yc, .int (nI wd)])), (yl, .inl (k 2, 8, .inr (.inl fl))), (yc, .inl (k 2, 8, .inr (.inl fc)))] s.heap.size = A at hD hG ⊢
  have hA : ∀ q : Nat, s.heap.size ≤ q → A q := fun q h => by rw [← hAe]; exact Or.inr h
  have hl := lv_entry ([.ref mo, .long zh, .long zl]) (n := 13) (Nat.le_of_ble_eq_true rfl)
  rw [lg_entry_eq]
  generalize (lg_sl ([.ref mo, .long zh, .long zl]) ++ List.replicate (13 - (lg_sl ([.ref mo, .long zh, .long zl])).length) Slot.unset).toArray = ls at hl ⊢
  have hl : lv_has ls 13 [(0, .ref mo), (1, .long zh), (3, .long zl)] := hl
  refine cw_start (A := A) hP (fun H locs hP hS => ?_)
  refine lv_iconst (v := nI 0) hx hb dMd_times_0 (by decide) ?_
  refine lv_istore (lv' := [(5, .int (nI 0)), (0, .ref mo), (1, .long zh), (3, .long zl)]) hx hb dMd_times_1 hl (by decide) rfl (fun ls hl => ?_)
  refine ri_loop (fun kq H locs ls => va_P D vwCl [(mo, .inr (5, [.int th, .ref xt, .ref xk, .ref xr, .int (nI nt), .int (nI nk), .int (nI nr), .ref xu, .ref xv, .ref xb, .ref xw, .ref xo, .ref xl, .ref xp, .ref yr, .ref ys, .ref yw, .ref yt, .ref yl, .ref yc, .int (nI wd)])), (yl, .inl (k 2, 8, .inr (.inl fl))), (yc, .inl (k 2, 8, .inr (.inl (hZl fc kq))))] H ∧ va_D A [(mo, .inr (5, [.int th, .ref xt, .ref xk, .ref xr, .int (nI nt), .int (nI nk), .int (nI nr), .ref xu, .ref xv, .ref xb, .ref xw, .ref xo, .ref xl, .ref xp, .ref yr, .ref ys, .ref yw, .ref yt, .ref yl, .ref yc, .int (nI wd)])), (yl, .inl (k 2, 8, .inr (.inl fl))), (yc, .inl (k 2, 8, .inr (.inl (hZl fc kq))))] ∧ va_S A s.heap H locs ∧ lv_has ls 13 [(5, .int (nI kq)), (0, .ref mo), (1, .long zh), (3, .long zl)]) 8 0 ⟨hP, hD, hS, lv_sub hl [0, 1, 2, 3] rfl⟩ (by omega) (fun kq H locs ls lt_kq ⟨hP, hD, hS, hl⟩ ih => ?_) (fun H locs ls ⟨hP, hD, hS, hl⟩ => ?_)
  · skip
    refine lv_iload hx hb dMd_times_3 (lv_at hl 0 rfl) ?_
    refine lv_bipush (v := nI 8) hx hb dMd_times_5 (by decide) ?_
    refine ri_ge (tgt := 24) hx hb dMd_times_7 (by decide) (by omega) (by omega) (fun c_7 => absurd c_7 (by omega)) (fun c_7 => ?_)
    refine lv_aload_n hx hb dMd_times_10 rfl (lv_at hl 1 rfl) ?_
    refine va_get (D := D) (ci := 5) (v := .ref yc) (C := R_Md) (T := T_Md) (N := 21) hx hb hts in_Md hown hK hP 0 rfl rfl 19 (by decide) (hts _ gm_544) (fun _ h9 => h9) rfl dMd_times_11 ?_
    refine lv_iload hx hb dMd_times_14 (lv_at hl 0 rfl) ?_
    refine lv_lconst (v := 0) hx hb dMd_times_16 (by decide) ?_
    refine rl_st hx hb hK hP hD hS 2 2 rfl rfl (by omega) (by omega) dMd_times_17 (fun H locs hP hD hS => ?_)
    have hP : va_P D vwCl [(mo, .inr (5, [.int th, .ref xt, .ref xk, .ref xr, .int (nI nt), .int (nI nk), .int (nI nr), .ref xu, .ref xv, .ref xb, .ref xw, .ref xo, .ref xl, .ref xp, .ref yr, .ref ys, .ref yw, .ref yt, .ref yl, .ref yc, .int (nI wd)])), (yl, .inl (k 2, 8, .inr (.inl fl))), (yc, .inl (k 2, 8, .inr (.inl (vp_updL (hZl fc kq) kq 0))))] H := hP
    have hD : va_D A [(mo, .inr (5, [.int th, .ref xt, .ref xk, .ref xr, .int (nI nt), .int (nI nk), .int (nI nr), .ref xu, .ref xv, .ref xb, .ref xw, .ref xo, .ref xl, .ref xp, .ref yr, .ref ys, .ref yw, .ref yt, .ref yl, .ref yc, .int (nI wd)])), (yl, .inl (k 2, 8, .inr (.inl fl))), (yc, .inl (k 2, 8, .inr (.inl (vp_updL (hZl fc kq) kq 0))))] := hD
    refine ri_inc (lv' := [(5, .int (nI (kq + 1))), (0, .ref mo), (1, .long zh), (3, .long zl)]) (k := 0) (d := 1) hx hb dMd_times_18 hl rfl (by decide) (by decide) rfl (fun ls hl => ?_)
    refine lv_goto (tgt := 3) hx hb dMd_times_21 (by decide) ?_
    exact ih _ _ _ ⟨hP, hD, hS, lv_sub hl [0, 1, 2, 3] rfl⟩
  · skip
    refine lv_iload hx hb dMd_times_3 (lv_at hl 0 rfl) ?_
    refine lv_bipush (v := nI 8) hx hb dMd_times_5 (by decide) ?_
    refine ri_ge (tgt := 24) hx hb dMd_times_7 (by decide) (by omega) (by omega) (fun c_7 => ?_) (fun c_7 => absurd c_7 (by omega))
    refine lv_iconst (v := nI 0) hx hb dMd_times_24 (by decide) ?_
    refine lv_istore (lv' := [(5, .int (nI 0)), (0, .ref mo), (1, .long zh), (3, .long zl)]) hx hb dMd_times_25 hl (by decide) rfl (fun ls hl => ?_)
    refine ri_loop (fun i H locs ls => ∃ (fc1 : Nat → Int64), va_P D vwCl [(mo, .inr (5, [.int th, .ref xt, .ref xk, .ref xr, .int (nI nt), .int (nI nk), .int (nI nr), .ref xu, .ref xv, .ref xb, .ref xw, .ref xo, .ref xl, .ref xp, .ref yr, .ref ys, .ref yw, .ref yt, .ref yl, .ref yc, .int (nI wd)])), (yl, .inl (k 2, 8, .inr (.inl fl))), (yc, .inl (k 2, 8, .inr (.inl fc1)))] H ∧ va_D A [(mo, .inr (5, [.int th, .ref xt, .ref xk, .ref xr, .int (nI nt), .int (nI nk), .int (nI nr), .ref xu, .ref xv, .ref xb, .ref xw, .ref xo, .ref xl, .ref xp, .ref yr, .ref ys, .ref yw, .ref yt, .ref yl, .ref yc, .int (nI wd)])), (yl, .inl (k 2, 8, .inr (.inl fl))), (yc, .inl (k 2, 8, .inr (.inl fc1)))] ∧ va_S A s.heap H locs ∧ lv_has ls 13 [(5, .int (nI i)), (0, .ref mo), (1, .long zh), (3, .long zl)] ∧ OI (xq zh zl i) fl fc1) 3 0 ⟨(hZl fc 8), hP, hD, hS, lv_sub hl [0, 1, 2, 3] rfl, OI_0⟩ (by omega) (fun i H locs ls lt_i ⟨fc1, hP, hD, hS, hl, hinv⟩ ih => ?_) (fun H locs ls ⟨fc1, hP, hD, hS, hl, hinv⟩ => ?_)
    · skip
      refine lv_iload hx hb dMd_times_27 (lv_at hl 0 rfl) ?_
      refine lv_iconst (v := nI 3) hx hb dMd_times_29 (by decide) ?_
      refine ri_ge (tgt := 139) hx hb dMd_times_30 (by decide) (by omega) (by omega) (fun c_30 => absurd c_30 (by omega)) (fun c_30 => ?_)
      refine lv_iload hx hb dMd_times_33 (lv_at hl 0 rfl) ?_
      refine rz_ne (tgt := 46) hx hb dMd_times_35 (by decide) (by omega) (fun c_35 => ?_) (fun c_35 => ?_)
      · skip
        refine lv_iload hx hb dMd_times_46 (lv_at hl 0 rfl) ?_
        refine lv_iconst (v := nI 1) hx hb dMd_times_48 (by decide) ?_
        refine ri_ne (tgt := 59) hx hb dMd_times_49 (by decide) (by omega) (by omega) (fun c_49 => ?_) (fun c_49 => ?_)
        · skip
          refine lv_lload_n hx hb dMd_times_59 rfl (lv_at hl 2 rfl) ?_
          have hbb : uv zh < 2 ^ 32 := hzh
          refine lv_lstore (lv' := [(6, .long zh), (5, .int (nI i)), (0, .ref mo), (1, .long zh), (3, .long zl)]) hx hb dMd_times_60 hl (by decide) rfl (fun ls hl => ?_)
          refine lv_lconst (v := 0) hx hb dMd_times_62 (by decide) ?_
          refine lv_lstore (lv' := [(8, .long 0), (6, .long zh), (5, .int (nI i)), (0, .ref mo), (1, .long zh), (3, .long zl)]) hx hb dMd_times_63 hl (by decide) rfl (fun ls hl => ?_)
          refine lv_iconst (v := nI 0) hx hb dMd_times_65 (by decide) ?_
          refine lv_istore (lv' := [(10, .int (nI 0)), (8, .long 0), (6, .long zh), (5, .int (nI i)), (0, .ref mo), (1, .long zh), (3, .long zl)]) hx hb dMd_times_66 hl (by decide) rfl (fun ls hl => ?_)
          refine ri_loop (fun y H locs ls => ∃ (fc2 : Nat → Int64) (cr1 : Int64), va_P D vwCl [(mo, .inr (5, [.int th, .ref xt, .ref xk, .ref xr, .int (nI nt), .int (nI nk), .int (nI nr), .ref xu, .ref xv, .ref xb, .ref xw, .ref xo, .ref xl, .ref xp, .ref yr, .ref ys, .ref yw, .ref yt, .ref yl, .ref yc, .int (nI wd)])), (yl, .inl (k 2, 8, .inr (.inl fl))), (yc, .inl (k 2, 8, .inr (.inl fc2)))] H ∧ va_D A [(mo, .inr (5, [.int th, .ref xt, .ref xk, .ref xr, .int (nI nt), .int (nI nk), .int (nI nr), .ref xu, .ref xv, .ref xb, .ref xw, .ref xo, .ref xl, .ref xp, .ref yr, .ref ys, .ref yw, .ref yt, .ref yl, .ref yc, .int (nI wd)])), (yl, .inl (k 2, 8, .inr (.inl fl))), (yc, .inl (k 2, 8, .inr (.inl fc2)))] ∧ va_S A s.heap H locs ∧ lv_has ls 13 [(10, .int (nI y)), (8, .long cr1), (6, .long zh), (5, .int (nI i)), (0, .ref mo), (1, .long zh), (3, .long zl)] ∧ TI i zh fl fc1 fc2 cr1 y) (8 - i) 0 ⟨fc1, 0, hP, hD, hS, lv_sub hl [0, 1, 2, 3, 4, 5, 6] rfl, TI_0 hinv.1⟩ (by omega) (fun y H locs ls lt_y ⟨fc2, cr1, hP, hD, hS, hl, hti⟩ ih => ?_) (fun H locs ls ⟨fc2, cr1, hP, hD, hS, hl, hti⟩ => ?_)
          · skip
            refine lv_iload hx hb dMd_times_68 (lv_at hl 3 rfl) ?_
            refine lv_iload hx hb dMd_times_70 (lv_at hl 0 rfl) ?_
            refine ri_add hx hb dMd_times_72 ?_
            refine lv_bipush (v := nI 8) hx hb dMd_times_73 (by decide) ?_
            refine ri_ge (tgt := 133) hx hb dMd_times_75 (by decide) (by omega) (by omega) (fun c_75 => absurd c_75 (by omega)) (fun c_75 => ?_)
            refine lv_aload_n hx hb dMd_times_78 rfl (lv_at hl 4 rfl) ?_
            refine va_get (D := D) (ci := 5) (v := .ref yc) (C := R_Md) (T := T_Md) (N := 21) hx hb hts in_Md hown hK hP 0 rfl rfl 19 (by decide) (hts _ gm_544) (fun _ h9 => h9) rfl dMd_times_79 ?_
            refine lv_iload hx hb dMd_times_82 (lv_at hl 3 rfl) ?_
            refine lv_iload hx hb dMd_times_84 (lv_at hl 0 rfl) ?_
            refine ri_add hx hb dMd_times_86 ?_
            refine rl_ld hx hb hK hP 2 2 rfl rfl (by omega) (by omega) dMd_times_87 ?_
            refine lv_lload hx hb dMd_times_88 (lv_at hl 2 rfl) ?_
            refine lv_aload_n hx hb dMd_times_90 rfl (lv_at hl 4 rfl) ?_
            refine va_get (D := D) (ci := 5) (v := .ref yl) (C := R_Md) (T := T_Md) (N := 21) hx hb hts in_Md hown hK hP 0 rfl rfl 18 (by decide) (hts _ gm_543) (fun _ h9 => h9) rfl dMd_times_91 ?_
            refine lv_iload hx hb dMd_times_94 (lv_at hl 0 rfl) ?_
            refine rl_ld hx hb hK hP 1 2 rfl rfl (by omega) (by omega) dMd_times_96 ?_
            refine lv_lmul hx hb dMd_times_97 ?_
            refine lv_ladd hx hb dMd_times_98 ?_
            refine lv_lload hx hb dMd_times_99 (lv_at hl 1 rfl) ?_
            refine lv_ladd hx hb dMd_times_101 ?_
            refine lv_lstore (lv' := [(11, .long (((fc2 (i + y)) + (zh * (fl y))) + cr1)), (10, .int (nI y)), (8, .long cr1), (6, .long zh), (5, .int (nI i)), (0, .ref mo), (1, .long zh), (3, .long zl)]) hx hb dMd_times_102 hl (by decide) rfl (fun ls hl => ?_)
            refine lv_aload_n hx hb dMd_times_104 rfl (lv_at hl 5 rfl) ?_
            refine va_get (D := D) (ci := 5) (v := .ref yc) (C := R_Md) (T := T_Md) (N := 21) hx hb hts in_Md hown hK hP 0 rfl rfl 19 (by decide) (hts _ gm_544) (fun _ h9 => h9) rfl dMd_times_105 ?_
            refine lv_iload hx hb dMd_times_108 (lv_at hl 4 rfl) ?_
            refine lv_iload hx hb dMd_times_110 (lv_at hl 1 rfl) ?_
            refine ri_add hx hb dMd_times_112 ?_
            refine lv_lload hx hb dMd_times_113 (lv_at hl 0 rfl) ?_
            refine lv_ldc2 (v := 4294967295) hx hb hown (hts _ gm_524) dMd_times_115 ?_
            refine lv_land hx hb dMd_times_118 ?_
            refine rl_st hx hb hK hP hD hS 2 2 rfl rfl (by omega) (by omega) dMd_times_119 (fun H locs hP hD hS => ?_)
            have hP : va_P D vwCl [(mo, .inr (5, [.int th, .ref xt, .ref xk, .ref xr, .int (nI nt), .int (nI nk), .int (nI nr), .ref xu, .ref xv, .ref xb, .ref xw, .ref xo, .ref xl, .ref xp, .ref yr, .ref ys, .ref yw, .ref yt, .ref yl, .ref yc, .int (nI wd)])), (yl, .inl (k 2, 8, .inr (.inl fl))), (yc, .inl (k 2, 8, .inr (.inl (vp_updL fc2 (i + y) ((((fc2 (i + y)) + (zh * (fl y))) + cr1) &&& 4294967295)))))] H := hP
            have hD : va_D A [(mo, .inr (5, [.int th, .ref xt, .ref xk, .ref xr, .int (nI nt), .int (nI nk), .int (nI nr), .ref xu, .ref xv, .ref xb, .ref xw, .ref xo, .ref xl, .ref xp, .ref yr, .ref ys, .ref yw, .ref yt, .ref yl, .ref yc, .int (nI wd)])), (yl, .inl (k 2, 8, .inr (.inl fl))), (yc, .inl (k 2, 8, .inr (.inl (vp_updL fc2 (i + y) ((((fc2 (i + y)) + (zh * (fl y))) + cr1) &&& 4294967295)))))] := hD
            refine lv_lload hx hb dMd_times_120 (lv_at hl 0 rfl) ?_
            refine lv_bipush (v := 32) hx hb dMd_times_122 (by decide) ?_
            refine lv_lushr (v := lu (((fc2 (i + y)) + (zh * (fl y))) + cr1) 32) hx hb dMd_times_124 rfl ?_
            refine lv_lstore (lv' := [(8, .long (lu (((fc2 (i + y)) + (zh * (fl y))) + cr1) 32)), (11, .long (((fc2 (i + y)) + (zh * (fl y))) + cr1)), (10, .int (nI y)), (6, .long zh), (5, .int (nI i)), (0, .ref mo), (1, .long zh), (3, .long zl)]) hx hb dMd_times_125 hl (by decide) rfl (fun ls hl => ?_)
            refine ri_inc (lv' := [(10, .int (nI (y + 1))), (8, .long (lu (((fc2 (i + y)) + (zh * (fl y))) + cr1) 32)), (11, .long (((fc2 (i + y)) + (zh * (fl y))) + cr1)), (6, .long zh), (5, .int (nI i)), (0, .ref mo), (1, .long zh), (3, .long zl)]) (k := 2) (d := 1) hx hb dMd_times_127 hl rfl (by decide) (by decide) rfl (fun ls hl => ?_)
            refine lv_goto (tgt := 68) hx hb dMd_times_130 (by decide) ?_
            exact ih _ _ _ ⟨(vp_updL fc2 (i + y) ((((fc2 (i + y)) + (zh * (fl y))) + cr1) &&& 4294967295)), (lu (((fc2 (i + y)) + (zh * (fl y))) + cr1) 32), hP, hD, hS, lv_sub hl [0, 1, 3, 4, 5, 6, 7] rfl, TI_1 hbb hfl lt_y hti⟩
          · skip
            refine lv_iload hx hb dMd_times_68 (lv_at hl 3 rfl) ?_
            refine lv_iload hx hb dMd_times_70 (lv_at hl 0 rfl) ?_
            refine ri_add hx hb dMd_times_72 ?_
            refine lv_bipush (v := nI 8) hx hb dMd_times_73 (by decide) ?_
            refine ri_ge (tgt := 133) hx hb dMd_times_75 (by decide) (by omega) (by omega) (fun c_75 => ?_) (fun c_75 => absurd c_75 (by omega))
            refine ri_inc (lv' := [(5, .int (nI (i + 1))), (10, .int (nI (8 - i))), (8, .long cr1), (6, .long zh), (0, .ref mo), (1, .long zh), (3, .long zl)]) (k := 3) (d := 1) hx hb dMd_times_133 hl rfl (by decide) (by decide) rfl (fun ls hl => ?_)
            refine lv_goto (tgt := 27) hx hb dMd_times_136 (by decide) ?_
            exact ih _ _ _ ⟨fc2, hP, hD, hS, lv_sub hl [0, 4, 5, 6] rfl, OI_c (OI_1 (by omega) hinv hti) (xq_3 (by omega))⟩
        · skip
          refine lv_lload_n hx hb dMd_times_52 rfl (lv_at hl 3 rfl) ?_
          refine lv_bipush (v := 32) hx hb dMd_times_53 (by decide) ?_
          refine lv_lushr (v := lu zl 32) hx hb dMd_times_55 rfl ?_
          refine lv_goto (tgt := 60) hx hb dMd_times_56 (by decide) ?_
          have hbb : uv (lu zl 32) < 2 ^ 32 := by rw [uv_lu]; have := uv_lt zl; omega
          refine lv_lstore (lv' := [(6, .long (lu zl 32)), (5, .int (nI i)), (0, .ref mo), (1, .long zh), (3, .long zl)]) hx hb dMd_times_60 hl (by decide) rfl (fun ls hl => ?_)
          refine lv_lconst (v := 0) hx hb dMd_times_62 (by decide) ?_
          refine lv_lstore (lv' := [(8, .long 0), (6, .long (lu zl 32)), (5, .int (nI i)), (0, .ref mo), (1, .long zh), (3, .long zl)]) hx hb dMd_times_63 hl (by decide) rfl (fun ls hl => ?_)
          refine lv_iconst (v := nI 0) hx hb dMd_times_65 (by decide) ?_
          refine lv_istore (lv' := [(10, .int (nI 0)), (8, .long 0), (6, .long (lu zl 32)), (5, .int (nI i)), (0, .ref mo), (1, .long zh), (3, .long zl)]) hx hb dMd_times_66 hl (by decide) rfl (fun ls hl => ?_)
          refine ri_loop (fun y H locs ls => ∃ (fc2 : Nat → Int64) (cr1 : Int64), va_P D vwCl [(mo, .inr (5, [.int th, .ref xt, .ref xk, .ref xr, .int (nI nt), .int (nI nk), .int (nI nr), .ref xu, .ref xv, .ref xb, .ref xw, .ref xo, .ref xl, .ref xp, .ref yr, .ref ys, .ref yw, .ref yt, .ref yl, .ref yc, .int (nI wd)])), (yl, .inl (k 2, 8, .inr (.inl fl))), (yc, .inl (k 2, 8, .inr (.inl fc2)))] H ∧ va_D A [(mo, .inr (5, [.int th, .ref xt, .ref xk, .ref xr, .int (nI nt), .int (nI nk), .int (nI nr), .ref xu, .ref xv, .ref xb, .ref xw, .ref xo, .ref xl, .ref xp, .ref yr, .ref ys, .ref yw, .ref yt, .ref yl, .ref yc, .int (nI wd)])), (yl, .inl (k 2, 8, .inr (.inl fl))), (yc, .inl (k 2, 8, .inr (.inl fc2)))] ∧ va_S A s.heap H locs ∧ lv_has ls 13 [(10, .int (nI y)), (8, .long cr1), (6, .long (lu zl 32)), (5, .int (nI i)), (0, .ref mo), (1, .long zh), (3, .long zl)] ∧ TI i (lu zl 32) fl fc1 fc2 cr1 y) (8 - i) 0 ⟨fc1, 0, hP, hD, hS, lv_sub hl [0, 1, 2, 3, 4, 5, 6] rfl, TI_0 hinv.1⟩ (by omega) (fun y H locs ls lt_y ⟨fc2, cr1, hP, hD, hS, hl, hti⟩ ih => ?_) (fun H locs ls ⟨fc2, cr1, hP, hD, hS, hl, hti⟩ => ?_)
          · skip
            refine lv_iload hx hb dMd_times_68 (lv_at hl 3 rfl) ?_
            refine lv_iload hx hb dMd_times_70 (lv_at hl 0 rfl) ?_
            refine ri_add hx hb dMd_times_72 ?_
            refine lv_bipush (v := nI 8) hx hb dMd_times_73 (by decide) ?_
            refine ri_ge (tgt := 133) hx hb dMd_times_75 (by decide) (by omega) (by omega) (fun c_75 => absurd c_75 (by omega)) (fun c_75 => ?_)
            refine lv_aload_n hx hb dMd_times_78 rfl (lv_at hl 4 rfl) ?_
            refine va_get (D := D) (ci := 5) (v := .ref yc) (C := R_Md) (T := T_Md) (N := 21) hx hb hts in_Md hown hK hP 0 rfl rfl 19 (by decide) (hts _ gm_544) (fun _ h9 => h9) rfl dMd_times_79 ?_
            refine lv_iload hx hb dMd_times_82 (lv_at hl 3 rfl) ?_
            refine lv_iload hx hb dMd_times_84 (lv_at hl 0 rfl) ?_
            refine ri_add hx hb dMd_times_86 ?_
            refine rl_ld hx hb hK hP 2 2 rfl rfl (by omega) (by omega) dMd_times_87 ?_
            refine lv_lload hx hb dMd_times_88 (lv_at hl 2 rfl) ?_
            refine lv_aload_n hx hb dMd_times_90 rfl (lv_at hl 4 rfl) ?_
            refine va_get (D := D) (ci := 5) (v := .ref yl) (C := R_Md) (T := T_Md) (N := 21) hx hb hts in_Md hown hK hP 0 rfl rfl 18 (by decide) (hts _ gm_543) (fun _ h9 => h9) rfl dMd_times_91 ?_
            refine lv_iload hx hb dMd_times_94 (lv_at hl 0 rfl) ?_
            refine rl_ld hx hb hK hP 1 2 rfl rfl (by omega) (by omega) dMd_times_96 ?_
            refine lv_lmul hx hb dMd_times_97 ?_
            refine lv_ladd hx hb dMd_times_98 ?_
            refine lv_lload hx hb dMd_times_99 (lv_at hl 1 rfl) ?_
            refine lv_ladd hx hb dMd_times_101 ?_
            refine lv_lstore (lv' := [(11, .long (((fc2 (i + y)) + ((lu zl 32) * (fl y))) + cr1)), (10, .int (nI y)), (8, .long cr1), (6, .long (lu zl 32)), (5, .int (nI i)), (0, .ref mo), (1, .long zh), (3, .long zl)]) hx hb dMd_times_102 hl (by decide) rfl (fun ls hl => ?_)
            refine lv_aload_n hx hb dMd_times_104 rfl (lv_at hl 5 rfl) ?_
            refine va_get (D := D) (ci := 5) (v := .ref yc) (C := R_Md) (T := T_Md) (N := 21) hx hb hts in_Md hown hK hP 0 rfl rfl 19 (by decide) (hts _ gm_544) (fun _ h9 => h9) rfl dMd_times_105 ?_
            refine lv_iload hx hb dMd_times_108 (lv_at hl 4 rfl) ?_
            refine lv_iload hx hb dMd_times_110 (lv_at hl 1 rfl) ?_
            refine ri_add hx hb dMd_times_112 ?_
            refine lv_lload hx hb dMd_times_113 (lv_at hl 0 rfl) ?_
            refine lv_ldc2 (v := 4294967295) hx hb hown (hts _ gm_524) dMd_times_115 ?_
            refine lv_land hx hb dMd_times_118 ?_
            refine rl_st hx hb hK hP hD hS 2 2 rfl rfl (by omega) (by omega) dMd_times_119 (fun H locs hP hD hS => ?_)
            have hP : va_P D vwCl [(mo, .inr (5, [.int th, .ref xt, .ref xk, .ref xr, .int (nI nt), .int (nI nk), .int (nI nr), .ref xu, .ref xv, .ref xb, .ref xw, .ref xo, .ref xl, .ref xp, .ref yr, .ref ys, .ref yw, .ref yt, .ref yl, .ref yc, .int (nI wd)])), (yl, .inl (k 2, 8, .inr (.inl fl))), (yc, .inl (k 2, 8, .inr (.inl (vp_updL fc2 (i + y) ((((fc2 (i + y)) + ((lu zl 32) * (fl y))) + cr1) &&& 4294967295)))))] H := hP
            have hD : va_D A [(mo, .inr (5, [.int th, .ref xt, .ref xk, .ref xr, .int (nI nt), .int (nI nk), .int (nI nr), .ref xu, .ref xv, .ref xb, .ref xw, .ref xo, .ref xl, .ref xp, .ref yr, .ref ys, .ref yw, .ref yt, .ref yl, .ref yc, .int (nI wd)])), (yl, .inl (k 2, 8, .inr (.inl fl))), (yc, .inl (k 2, 8, .inr (.inl (vp_updL fc2 (i + y) ((((fc2 (i + y)) + ((lu zl 32) * (fl y))) + cr1) &&& 4294967295)))))] := hD
            refine lv_lload hx hb dMd_times_120 (lv_at hl 0 rfl) ?_
            refine lv_bipush (v := 32) hx hb dMd_times_122 (by decide) ?_
            refine lv_lushr (v := lu (((fc2 (i + y)) + ((lu zl 32) * (fl y))) + cr1) 32) hx hb dMd_times_124 rfl ?_
            refine lv_lstore (lv' := [(8, .long (lu (((fc2 (i + y)) + ((lu zl 32) * (fl y))) + cr1) 32)), (11, .long (((fc2 (i + y)) + ((lu zl 32) * (fl y))) + cr1)), (10, .int (nI y)), (6, .long (lu zl 32)), (5, .int (nI i)), (0, .ref mo), (1, .long zh), (3, .long zl)]) hx hb dMd_times_125 hl (by decide) rfl (fun ls hl => ?_)
            refine ri_inc (lv' := [(10, .int (nI (y + 1))), (8, .long (lu (((fc2 (i + y)) + ((lu zl 32) * (fl y))) + cr1) 32)), (11, .long (((fc2 (i + y)) + ((lu zl 32) * (fl y))) + cr1)), (6, .long (lu zl 32)), (5, .int (nI i)), (0, .ref mo), (1, .long zh), (3, .long zl)]) (k := 2) (d := 1) hx hb dMd_times_127 hl rfl (by decide) (by decide) rfl (fun ls hl => ?_)
            refine lv_goto (tgt := 68) hx hb dMd_times_130 (by decide) ?_
            exact ih _ _ _ ⟨(vp_updL fc2 (i + y) ((((fc2 (i + y)) + ((lu zl 32) * (fl y))) + cr1) &&& 4294967295)), (lu (((fc2 (i + y)) + ((lu zl 32) * (fl y))) + cr1) 32), hP, hD, hS, lv_sub hl [0, 1, 3, 4, 5, 6, 7] rfl, TI_1 hbb hfl lt_y hti⟩
          · skip
            refine lv_iload hx hb dMd_times_68 (lv_at hl 3 rfl) ?_
            refine lv_iload hx hb dMd_times_70 (lv_at hl 0 rfl) ?_
            refine ri_add hx hb dMd_times_72 ?_
            refine lv_bipush (v := nI 8) hx hb dMd_times_73 (by decide) ?_
            refine ri_ge (tgt := 133) hx hb dMd_times_75 (by decide) (by omega) (by omega) (fun c_75 => ?_) (fun c_75 => absurd c_75 (by omega))
            refine ri_inc (lv' := [(5, .int (nI (i + 1))), (10, .int (nI (8 - i))), (8, .long cr1), (6, .long (lu zl 32)), (0, .ref mo), (1, .long zh), (3, .long zl)]) (k := 3) (d := 1) hx hb dMd_times_133 hl rfl (by decide) (by decide) rfl (fun ls hl => ?_)
            refine lv_goto (tgt := 27) hx hb dMd_times_136 (by decide) ?_
            exact ih _ _ _ ⟨fc2, hP, hD, hS, lv_sub hl [0, 4, 5, 6] rfl, OI_c (OI_1 (by omega) hinv hti) (xq_2 c_49)⟩
      · skip
        refine lv_lload_n hx hb dMd_times_38 rfl (lv_at hl 3 rfl) ?_
        refine lv_ldc2 (v := 4294967295) hx hb hown (hts _ gm_524) dMd_times_39 ?_
        refine lv_land hx hb dMd_times_42 ?_
        refine lv_goto (tgt := 60) hx hb dMd_times_43 (by decide) ?_
        have hbb : uv (zl &&& 4294967295) < 2 ^ 32 := by rw [uv_and]; exact Nat.mod_lt _ (by decide)
        refine lv_lstore (lv' := [(6, .long (zl &&& 4294967295)), (5, .int (nI i)), (0, .ref mo), (1, .long zh), (3, .long zl)]) hx hb dMd_times_60 hl (by decide) rfl (fun ls hl => ?_)
        refine lv_lconst (v := 0) hx hb dMd_times_62 (by decide) ?_
        refine lv_lstore (lv' := [(8, .long 0), (6, .long (zl &&& 4294967295)), (5, .int (nI i)), (0, .ref mo), (1, .long zh), (3, .long zl)]) hx hb dMd_times_63 hl (by decide) rfl (fun ls hl => ?_)
        refine lv_iconst (v := nI 0) hx hb dMd_times_65 (by decide) ?_
        refine lv_istore (lv' := [(10, .int (nI 0)), (8, .long 0), (6, .long (zl &&& 4294967295)), (5, .int (nI i)), (0, .ref mo), (1, .long zh), (3, .long zl)]) hx hb dMd_times_66 hl (by decide) rfl (fun ls hl => ?_)
        refine ri_loop (fun y H locs ls => ∃ (fc2 : Nat → Int64) (cr1 : Int64), va_P D vwCl [(mo, .inr (5, [.int th, .ref xt, .ref xk, .ref xr, .int (nI nt), .int (nI nk), .int (nI nr), .ref xu, .ref xv, .ref xb, .ref xw, .ref xo, .ref xl, .ref xp, .ref yr, .ref ys, .ref yw, .ref yt, .ref yl, .ref yc, .int (nI wd)])), (yl, .inl (k 2, 8, .inr (.inl fl))), (yc, .inl (k 2, 8, .inr (.inl fc2)))] H ∧ va_D A [(mo, .inr (5, [.int th, .ref xt, .ref xk, .ref xr, .int (nI nt), .int (nI nk), .int (nI nr), .ref xu, .ref xv, .ref xb, .ref xw, .ref xo, .ref xl, .ref xp, .ref yr, .ref ys, .ref yw, .ref yt, .ref yl, .ref yc, .int (nI wd)])), (yl, .inl (k 2, 8, .inr (.inl fl))), (yc, .inl (k 2, 8, .inr (.inl fc2)))] ∧ va_S A s.heap H locs ∧ lv_has ls 13 [(10, .int (nI y)), (8, .long cr1), (6, .long (zl &&& 4294967295)), (5, .int (nI i)), (0, .ref mo), (1, .long zh), (3, .long zl)] ∧ TI i (zl &&& 4294967295) fl fc1 fc2 cr1 y) (8 - i) 0 ⟨fc1, 0, hP, hD, hS, lv_sub hl [0, 1, 2, 3, 4, 5, 6] rfl, TI_0 hinv.1⟩ (by omega) (fun y H locs ls lt_y ⟨fc2, cr1, hP, hD, hS, hl, hti⟩ ih => ?_) (fun H locs ls ⟨fc2, cr1, hP, hD, hS, hl, hti⟩ => ?_)
        · skip
          refine lv_iload hx hb dMd_times_68 (lv_at hl 3 rfl) ?_
          refine lv_iload hx hb dMd_times_70 (lv_at hl 0 rfl) ?_
          refine ri_add hx hb dMd_times_72 ?_
          refine lv_bipush (v := nI 8) hx hb dMd_times_73 (by decide) ?_
          refine ri_ge (tgt := 133) hx hb dMd_times_75 (by decide) (by omega) (by omega) (fun c_75 => absurd c_75 (by omega)) (fun c_75 => ?_)
          refine lv_aload_n hx hb dMd_times_78 rfl (lv_at hl 4 rfl) ?_
          refine va_get (D := D) (ci := 5) (v := .ref yc) (C := R_Md) (T := T_Md) (N := 21) hx hb hts in_Md hown hK hP 0 rfl rfl 19 (by decide) (hts _ gm_544) (fun _ h9 => h9) rfl dMd_times_79 ?_
          refine lv_iload hx hb dMd_times_82 (lv_at hl 3 rfl) ?_
          refine lv_iload hx hb dMd_times_84 (lv_at hl 0 rfl) ?_
          refine ri_add hx hb dMd_times_86 ?_
          refine rl_ld hx hb hK hP 2 2 rfl rfl (by omega) (by omega) dMd_times_87 ?_
          refine lv_lload hx hb dMd_times_88 (lv_at hl 2 rfl) ?_
          refine lv_aload_n hx hb dMd_times_90 rfl (lv_at hl 4 rfl) ?_
          refine va_get (D := D) (ci := 5) (v := .ref yl) (C := R_Md) (T := T_Md) (N := 21) hx hb hts in_Md hown hK hP 0 rfl rfl 18 (by decide) (hts _ gm_543) (fun _ h9 => h9) rfl dMd_times_91 ?_
          refine lv_iload hx hb dMd_times_94 (lv_at hl 0 rfl) ?_
          refine rl_ld hx hb hK hP 1 2 rfl rfl (by omega) (by omega) dMd_times_96 ?_
          refine lv_lmul hx hb dMd_times_97 ?_
          refine lv_ladd hx hb dMd_times_98 ?_
          refine lv_lload hx hb dMd_times_99 (lv_at hl 1 rfl) ?_
          refine lv_ladd hx hb dMd_times_101 ?_
          refine lv_lstore (lv' := [(11, .long (((fc2 (i + y)) + ((zl &&& 4294967295) * (fl y))) + cr1)), (10, .int (nI y)), (8, .long cr1), (6, .long (zl &&& 4294967295)), (5, .int (nI i)), (0, .ref mo), (1, .long zh), (3, .long zl)]) hx hb dMd_times_102 hl (by decide) rfl (fun ls hl => ?_)
          refine lv_aload_n hx hb dMd_times_104 rfl (lv_at hl 5 rfl) ?_
          refine va_get (D := D) (ci := 5) (v := .ref yc) (C := R_Md) (T := T_Md) (N := 21) hx hb hts in_Md hown hK hP 0 rfl rfl 19 (by decide) (hts _ gm_544) (fun _ h9 => h9) rfl dMd_times_105 ?_
          refine lv_iload hx hb dMd_times_108 (lv_at hl 4 rfl) ?_
          refine lv_iload hx hb dMd_times_110 (lv_at hl 1 rfl) ?_
          refine ri_add hx hb dMd_times_112 ?_
          refine lv_lload hx hb dMd_times_113 (lv_at hl 0 rfl) ?_
          refine lv_ldc2 (v := 4294967295) hx hb hown (hts _ gm_524) dMd_times_115 ?_
          refine lv_land hx hb dMd_times_118 ?_
          refine rl_st hx hb hK hP hD hS 2 2 rfl rfl (by omega) (by omega) dMd_times_119 (fun H locs hP hD hS => ?_)
          have hP : va_P D vwCl [(mo, .inr (5, [.int th, .ref xt, .ref xk, .ref xr, .int (nI nt), .int (nI nk), .int (nI nr), .ref xu, .ref xv, .ref xb, .ref xw, .ref xo, .ref xl, .ref xp, .ref yr, .ref ys, .ref yw, .ref yt, .ref yl, .ref yc, .int (nI wd)])), (yl, .inl (k 2, 8, .inr (.inl fl))), (yc, .inl (k 2, 8, .inr (.inl (vp_updL fc2 (i + y) ((((fc2 (i + y)) + ((zl &&& 4294967295) * (fl y))) + cr1) &&& 4294967295)))))] H := hP
          have hD : va_D A [(mo, .inr (5, [.int th, .ref xt, .ref xk, .ref xr, .int (nI nt), .int (nI nk), .int (nI nr), .ref xu, .ref xv, .ref xb, .ref xw, .ref xo, .ref xl, .ref xp, .ref yr, .ref ys, .ref yw, .ref yt, .ref yl, .ref yc, .int (nI wd)])), (yl, .inl (k 2, 8, .inr (.inl fl))), (yc, .inl (k 2, 8, .inr (.inl (vp_updL fc2 (i + y) ((((fc2 (i + y)) + ((zl &&& 4294967295) * (fl y))) + cr1) &&& 4294967295)))))] := hD
          refine lv_lload hx hb dMd_times_120 (lv_at hl 0 rfl) ?_
          refine lv_bipush (v := 32) hx hb dMd_times_122 (by decide) ?_
          refine lv_lushr (v := lu (((fc2 (i + y)) + ((zl &&& 4294967295) * (fl y))) + cr1) 32) hx hb dMd_times_124 rfl ?_
          refine lv_lstore (lv' := [(8, .long (lu (((fc2 (i + y)) + ((zl &&& 4294967295) * (fl y))) + cr1) 32)), (11, .long (((fc2 (i + y)) + ((zl &&& 4294967295) * (fl y))) + cr1)), (10, .int (nI y)), (6, .long (zl &&& 4294967295)), (5, .int (nI i)), (0, .ref mo), (1, .long zh), (3, .long zl)]) hx hb dMd_times_125 hl (by decide) rfl (fun ls hl => ?_)
          refine ri_inc (lv' := [(10, .int (nI (y + 1))), (8, .long (lu (((fc2 (i + y)) + ((zl &&& 4294967295) * (fl y))) + cr1) 32)), (11, .long (((fc2 (i + y)) + ((zl &&& 4294967295) * (fl y))) + cr1)), (6, .long (zl &&& 4294967295)), (5, .int (nI i)), (0, .ref mo), (1, .long zh), (3, .long zl)]) (k := 2) (d := 1) hx hb dMd_times_127 hl rfl (by decide) (by decide) rfl (fun ls hl => ?_)
          refine lv_goto (tgt := 68) hx hb dMd_times_130 (by decide) ?_
          exact ih _ _ _ ⟨(vp_updL fc2 (i + y) ((((fc2 (i + y)) + ((zl &&& 4294967295) * (fl y))) + cr1) &&& 4294967295)), (lu (((fc2 (i + y)) + ((zl &&& 4294967295) * (fl y))) + cr1) 32), hP, hD, hS, lv_sub hl [0, 1, 3, 4, 5, 6, 7] rfl, TI_1 hbb hfl lt_y hti⟩
        · skip
          refine lv_iload hx hb dMd_times_68 (lv_at hl 3 rfl) ?_
          refine lv_iload hx hb dMd_times_70 (lv_at hl 0 rfl) ?_
          refine ri_add hx hb dMd_times_72 ?_
          refine lv_bipush (v := nI 8) hx hb dMd_times_73 (by decide) ?_
          refine ri_ge (tgt := 133) hx hb dMd_times_75 (by decide) (by omega) (by omega) (fun c_75 => ?_) (fun c_75 => absurd c_75 (by omega))
          refine ri_inc (lv' := [(5, .int (nI (i + 1))), (10, .int (nI (8 - i))), (8, .long cr1), (6, .long (zl &&& 4294967295)), (0, .ref mo), (1, .long zh), (3, .long zl)]) (k := 3) (d := 1) hx hb dMd_times_133 hl rfl (by decide) (by decide) rfl (fun ls hl => ?_)
          refine lv_goto (tgt := 27) hx hb dMd_times_136 (by decide) ?_
          exact ih _ _ _ ⟨fc2, hP, hD, hS, lv_sub hl [0, 4, 5, 6] rfl, OI_c (OI_1 (by omega) hinv hti) (xq_1 c_35)⟩
    · skip
      refine lv_iload hx hb dMd_times_27 (lv_at hl 0 rfl) ?_
      refine lv_iconst (v := nI 3) hx hb dMd_times_29 (by decide) ?_
      refine ri_ge (tgt := 139) hx hb dMd_times_30 (by decide) (by omega) (by omega) (fun c_30 => ?_) (fun c_30 => absurd c_30 (by omega))
      refine lv_iconst (v := nI 0) hx hb dMd_times_139 (by decide) ?_
      refine lv_istore (lv' := [(5, .int (nI 0)), (0, .ref mo), (1, .long zh), (3, .long zl)]) hx hb dMd_times_140 hl (by decide) rfl (fun ls hl => ?_)
      refine ri_loop (fun kq H locs ls => va_P D vwCl [(mo, .inr (5, [.int th, .ref xt, .ref xk, .ref xr, .int (nI nt), .int (nI nk), .int (nI nr), .ref xu, .ref xv, .ref xb, .ref xw, .ref xo, .ref xl, .ref xp, .ref yr, .ref ys, .ref yw, .ref yt, .ref yl, .ref yc, .int (nI wd)])), (yl, .inl (k 2, 8, .inr (.inl (hCl fc1 fl kq)))), (yc, .inl (k 2, 8, .inr (.inl fc1)))] H ∧ va_D A [(mo, .inr (5, [.int th, .ref xt, .ref xk, .ref xr, .int (nI nt), .int (nI nk), .int (nI nr), .ref xu, .ref xv, .ref xb, .ref xw, .ref xo, .ref xl, .ref xp, .ref yr, .ref ys, .ref yw, .ref yt, .ref yl, .ref yc, .int (nI wd)])), (yl, .inl (k 2, 8, .inr (.inl (hCl fc1 fl kq)))), (yc, .inl (k 2, 8, .inr (.inl fc1)))] ∧ va_S A s.heap H locs ∧ lv_has ls 13 [(5, .int (nI kq)), (0, .ref mo), (1, .long zh), (3, .long zl)]) 8 0 ⟨hP, hD, hS, lv_sub hl [0, 1, 2, 3] rfl⟩ (by omega) (fun kq H locs ls lt_kq ⟨hP, hD, hS, hl⟩ ih => ?_) (fun H locs ls ⟨hP, hD, hS, hl⟩ => ?_)
      · skip
        refine lv_iload hx hb dMd_times_142 (lv_at hl 0 rfl) ?_
        refine lv_bipush (v := nI 8) hx hb dMd_times_144 (by decide) ?_
        refine ri_ge (tgt := 169) hx hb dMd_times_146 (by decide) (by omega) (by omega) (fun c_146 => absurd c_146 (by omega)) (fun c_146 => ?_)
        refine lv_aload_n hx hb dMd_times_149 rfl (lv_at hl 1 rfl) ?_
        refine va_get (D := D) (ci := 5) (v := .ref yl) (C := R_Md) (T := T_Md) (N := 21) hx hb hts in_Md hown hK hP 0 rfl rfl 18 (by decide) (hts _ gm_543) (fun _ h9 => h9) rfl dMd_times_150 ?_
        refine lv_iload hx hb dMd_times_153 (lv_at hl 0 rfl) ?_
        refine lv_aload_n hx hb dMd_times_155 rfl (lv_at hl 1 rfl) ?_
        refine va_get (D := D) (ci := 5) (v := .ref yc) (C := R_Md) (T := T_Md) (N := 21) hx hb hts in_Md hown hK hP 0 rfl rfl 19 (by decide) (hts _ gm_544) (fun _ h9 => h9) rfl dMd_times_156 ?_
        refine lv_iload hx hb dMd_times_159 (lv_at hl 0 rfl) ?_
        refine rl_ld hx hb hK hP 2 2 rfl rfl (by omega) (by omega) dMd_times_161 ?_
        refine rl_st hx hb hK hP hD hS 1 2 rfl rfl (by omega) (by omega) dMd_times_162 (fun H locs hP hD hS => ?_)
        have hP : va_P D vwCl [(mo, .inr (5, [.int th, .ref xt, .ref xk, .ref xr, .int (nI nt), .int (nI nk), .int (nI nr), .ref xu, .ref xv, .ref xb, .ref xw, .ref xo, .ref xl, .ref xp, .ref yr, .ref ys, .ref yw, .ref yt, .ref yl, .ref yc, .int (nI wd)])), (yl, .inl (k 2, 8, .inr (.inl (vp_updL (hCl fc1 fl kq) kq (fc1 kq))))), (yc, .inl (k 2, 8, .inr (.inl fc1)))] H := hP
        have hD : va_D A [(mo, .inr (5, [.int th, .ref xt, .ref xk, .ref xr, .int (nI nt), .int (nI nk), .int (nI nr), .ref xu, .ref xv, .ref xb, .ref xw, .ref xo, .ref xl, .ref xp, .ref yr, .ref ys, .ref yw, .ref yt, .ref yl, .ref yc, .int (nI wd)])), (yl, .inl (k 2, 8, .inr (.inl (vp_updL (hCl fc1 fl kq) kq (fc1 kq))))), (yc, .inl (k 2, 8, .inr (.inl fc1)))] := hD
        refine ri_inc (lv' := [(5, .int (nI (kq + 1))), (0, .ref mo), (1, .long zh), (3, .long zl)]) (k := 0) (d := 1) hx hb dMd_times_163 hl rfl (by decide) (by decide) rfl (fun ls hl => ?_)
        refine lv_goto (tgt := 142) hx hb dMd_times_166 (by decide) ?_
        exact ih _ _ _ ⟨hP, hD, hS, lv_sub hl [0, 1, 2, 3] rfl⟩
      · skip
        refine lv_iload hx hb dMd_times_142 (lv_at hl 0 rfl) ?_
        refine lv_bipush (v := nI 8) hx hb dMd_times_144 (by decide) ?_
        refine ri_ge (tgt := 169) hx hb dMd_times_146 (by decide) (by omega) (by omega) (fun c_146 => ?_) (fun c_146 => absurd c_146 (by omega))
        refine W.widen (k := 0) (n := 0) (Nat.le_refl _) (Nat.le_refl _) ?_
        exact W.vret hx hb hr (fun t ht hW => ⟨⟨(hCl fc1 fl 8, fc1), rfl, OI_end hinv, by rw [ht]; exact hP, hD⟩, hS.F ht⟩) hS.2.2 dMd_times_169
set_option maxHeartbeats 600000 in
set_option maxRecDepth 100000 in
theorem c_r_fits2 (l : Launch) (D : va_G) (k : Nat → ClassId) (tb : Nat → Nat) (sz : Nat) (mo xt xk xr nt nk nr xu xv xb xw xo xl xp yr ys yw yt yl yc wd : Nat) (th : Int32) (zh zl : Int64) (pp : Nat) (fl fc : Nat → Int64) (hX : xVal zh zl < 2 ^ 67) (hp : pp < 512) : Met l yMd_fits wMd_fits ({ frames := 1, cells := 0, slots := 0, locals := 32 }) (cP D k tb [(mo, .inr (5, [.int th, .ref xt, .ref xk, .ref xr, .int (nI nt), .int (nI nk), .int (nI nr), .ref xu, .ref xv, .ref xb, .ref xw, .ref xo, .ref xl, .ref xp, .ref yr, .ref ys, .ref yw, .ref yt, .ref yl, .ref yc, .int (nI wd)])), (yl, .inl (k 2, 8, .inr (.inl fl))), (yc, .inl (k 2, 8, .inr (.inl fc)))] sz [.ref mo, .long zh, .long zl, .int (nI pp), .int (nI 2)]) (va_Qi (fun (r : Int32) (u : (Nat → Int64) × (Nat → Int64)) => r = fN (xVal zh zl ^ 2) (pp * 2 ^ (32 * 4))) (fun (u : (Nat → Int64) × (Nat → Int64)) (t : State) => va_P D vwCl [(mo, .inr (5, [.int th, .ref xt, .ref xk, .ref xr, .int (nI nt), .int (nI nk), .int (nI nr), .ref xu, .ref xv, .ref xb, .ref xw, .ref xo, .ref xl, .ref xp, .ref yr, .ref ys, .ref yw, .ref yt, .ref yl, .ref yc, .int (nI wd)])), (yl, .inl (k 2, 8, .inr (.inl u.1))), (yc, .inl (k 2, 8, .inr (.inl u.2)))] t.heap ∧ va_D (va_A [(mo, .inr (5, [.int th, .ref xt, .ref xk, .ref xr, .int (nI nt), .int (nI nk), .int (nI nr), .ref xu, .ref xv, .ref xb, .ref xw, .ref xo, .ref xl, .ref xp, .ref yr, .ref ys, .ref yw, .ref yt, .ref yl, .ref yc, .int (nI wd)])), (yl, .inl (k 2, 8, .inr (.inl fl))), (yc, .inl (k 2, 8, .inr (.inl fc)))] sz) [(mo, .inr (5, [.int th, .ref xt, .ref xk, .ref xr, .int (nI nt), .int (nI nk), .int (nI nr), .ref xu, .ref xv, .ref xb, .ref xw, .ref xo, .ref xl, .ref xp, .ref yr, .ref ys, .ref yw, .ref yt, .ref yl, .ref yc, .int (nI wd)])), (yl, .inl (k 2, 8, .inr (.inl u.1))), (yc, .inl (k 2, 8, .inr (.inl u.2)))]) (va_A [(mo, .inr (5, [.int th, .ref xt, .ref xk, .ref xr, .int (nI nt), .int (nI nk), .int (nI nr), .ref xu, .ref xv, .ref xb, .ref xw, .ref xo, .ref xl, .ref xp, .ref yr, .ref ys, .ref yw, .ref yt, .ref yl, .ref yc, .int (nI wd)])), (yl, .inl (k 2, 8, .inr (.inl fl))), (yc, .inl (k 2, 8, .inr (.inl fc)))] sz)) (0) (0) (va_A [(mo, .inr (5, [.int th, .ref xt, .ref xk, .ref xr, .int (nI nt), .int (nI nk), .int (nI nr), .ref xu, .ref xv, .ref xb, .ref xw, .ref xo, .ref xl, .ref xp, .ref yr, .ref ys, .ref yw, .ref yt, .ref yl, .ref yc, .int (nI wd)])), (yl, .inl (k 2, 8, .inr (.inl fl))), (yc, .inl (k 2, 8, .inr (.inl fc)))] sz) := by
  refine Met.ofW (cc := cMd_fits) (maxL := 10) (ret := (some .boolean)) (by decide) rfl ?_
  intro p e s m args below meth c s₁ B hml hv
  obtain ⟨rfl, hsz, hP, hK, hD0, hG⟩ := hv
  have hx := B.exec
  have hb := B.bytes
  have hr := B.returns
  have hts : ∀ w ∈ GT, w.before _ s = true := fun w h => atoms_spec (ws := wMd_fits) B.pre w (List.mem_cons_of_mem _ h)
  have hown : s.vm.findClass R_Md = some m.cls := findClass_of_methodNamed B.named
  have hlocks := B.notSynchronized
  subst hsz
  have hD := hD0.self (sz := s.heap.size)
  generalize hAe : va_A [(mo, .inr (5, [.int th, .ref xt, .ref xk, .ref xr, .int (nI nt), .int (nI nk), .int (nI nr), .ref xu, .ref xv, .ref xb, .ref xw, .ref xo, .ref xl, .ref xp, .ref yr, .ref ys, .ref yw, .ref yt, .ref yl, .ref yc, .int (nI wd)])), (yl, .inl (k 2, 8, .inr (.inl fl))), (yc, .inl (k 2, 8, .inr (.inl fc)))] s.heap.size = A at hD hG ⊢
  have hA : ∀ q : Nat, s.heap.size ≤ q → A q := fun q h => by rw [← hAe]; exact Or.inr h
  have hl := lv_entry ([.ref mo, .long zh, .long zl, .int (nI pp), .int (nI 2)]) (n := 10) (Nat.le_of_ble_eq_true rfl)
  rw [lg_entry_eq]
  generalize (lg_sl ([.ref mo, .long zh, .long zl, .int (nI pp), .int (nI 2)]) ++ List.replicate (10 - (lg_sl ([.ref mo, .long zh, .long zl, .int (nI pp), .int (nI 2)])).length) Slot.unset).toArray = ls at hl ⊢
  have hl : lv_has ls 10 [(0, .ref mo), (1, .long zh), (3, .long zl), (5, .int (nI pp)), (6, .int (nI 2))] := hl
  refine cw_start (A := A) hP (fun H locs hP hS => ?_)
  refine lv_iconst (v := nI 0) hx hb dMd_fits_0 (by decide) ?_
  refine lv_istore (lv' := [(7, .int (nI 0)), (0, .ref mo), (1, .long zh), (3, .long zl), (5, .int (nI pp)), (6, .int (nI 2))]) hx hb dMd_fits_1 hl (by decide) rfl (fun ls hl => ?_)
  refine ri_loop (fun kq H locs ls => va_P D vwCl [(mo, .inr (5, [.int th, .ref xt, .ref xk, .ref xr, .int (nI nt), .int (nI nk), .int (nI nr), .ref xu, .ref xv, .ref xb, .ref xw, .ref xo, .ref xl, .ref xp, .ref yr, .ref ys, .ref yw, .ref yt, .ref yl, .ref yc, .int (nI wd)])), (yl, .inl (k 2, 8, .inr (.inl (oneL fl kq)))), (yc, .inl (k 2, 8, .inr (.inl fc)))] H ∧ va_D A [(mo, .inr (5, [.int th, .ref xt, .ref xk, .ref xr, .int (nI nt), .int (nI nk), .int (nI nr), .ref xu, .ref xv, .ref xb, .ref xw, .ref xo, .ref xl, .ref xp, .ref yr, .ref ys, .ref yw, .ref yt, .ref yl, .ref yc, .int (nI wd)])), (yl, .inl (k 2, 8, .inr (.inl (oneL fl kq)))), (yc, .inl (k 2, 8, .inr (.inl fc)))] ∧ va_S A s.heap H locs ∧ lv_has ls 10 [(7, .int (nI kq)), (0, .ref mo), (1, .long zh), (3, .long zl), (5, .int (nI pp)), (6, .int (nI 2))]) 8 0 ⟨hP, hD, hS, lv_sub hl [0, 1, 2, 3, 4, 5] rfl⟩ (by omega) (fun kq H locs ls lt_kq ⟨hP, hD, hS, hl⟩ ih => ?_) (fun H locs ls ⟨hP, hD, hS, hl⟩ => ?_)
  · skip
    refine lv_iload hx hb dMd_fits_3 (lv_at hl 0 rfl) ?_
    refine lv_bipush (v := nI 8) hx hb dMd_fits_5 (by decide) ?_
    refine ri_ge (tgt := 33) hx hb dMd_fits_7 (by decide) (by omega) (by omega) (fun c_7 => absurd c_7 (by omega)) (fun c_7 => ?_)
    refine lv_aload_n hx hb dMd_fits_10 rfl (lv_at hl 1 rfl) ?_
    refine va_get (D := D) (ci := 5) (v := .ref yl) (C := R_Md) (T := T_Md) (N := 21) hx hb hts in_Md hown hK hP 0 rfl rfl 18 (by decide) (hts _ gm_543) (fun _ h9 => h9) rfl dMd_fits_11 ?_
    refine lv_iload hx hb dMd_fits_14 (lv_at hl 0 rfl) ?_
    refine lv_iload hx hb dMd_fits_16 (lv_at hl 0 rfl) ?_
    refine rz_ne (tgt := 25) hx hb dMd_fits_18 (by decide) (by omega) (fun c_18 => ?_) (fun c_18 => ?_)
    · skip
      refine lv_lconst (v := 0) hx hb dMd_fits_25 (by decide) ?_
      rw [show (0 : Int64) = (if kq = 0 then 1 else 0) from by rw [if_neg (by omega)]]
      refine rl_st hx hb hK hP hD hS 1 2 rfl rfl (by omega) (by omega) dMd_fits_26 (fun H locs hP hD hS => ?_)
      have hP : va_P D vwCl [(mo, .inr (5, [.int th, .ref xt, .ref xk, .ref xr, .int (nI nt), .int (nI nk), .int (nI nr), .ref xu, .ref xv, .ref xb, .ref xw, .ref xo, .ref xl, .ref xp, .ref yr, .ref ys, .ref yw, .ref yt, .ref yl, .ref yc, .int (nI wd)])), (yl, .inl (k 2, 8, .inr (.inl (vp_updL (oneL fl kq) kq (if kq = 0 then 1 else 0))))), (yc, .inl (k 2, 8, .inr (.inl fc)))] H := hP
      have hD : va_D A [(mo, .inr (5, [.int th, .ref xt, .ref xk, .ref xr, .int (nI nt), .int (nI nk), .int (nI nr), .ref xu, .ref xv, .ref xb, .ref xw, .ref xo, .ref xl, .ref xp, .ref yr, .ref ys, .ref yw, .ref yt, .ref yl, .ref yc, .int (nI wd)])), (yl, .inl (k 2, 8, .inr (.inl (vp_updL (oneL fl kq) kq (if kq = 0 then 1 else 0))))), (yc, .inl (k 2, 8, .inr (.inl fc)))] := hD
      refine ri_inc (lv' := [(7, .int (nI (kq + 1))), (0, .ref mo), (1, .long zh), (3, .long zl), (5, .int (nI pp)), (6, .int (nI 2))]) (k := 0) (d := 1) hx hb dMd_fits_27 hl rfl (by decide) (by decide) rfl (fun ls hl => ?_)
      refine lv_goto (tgt := 3) hx hb dMd_fits_30 (by decide) ?_
      exact ih _ _ _ ⟨hP, hD, hS, lv_sub hl [0, 1, 2, 3, 4, 5] rfl⟩
    · skip
      refine lv_lconst (v := 1) hx hb dMd_fits_21 (by decide) ?_
      refine lv_goto (tgt := 26) hx hb dMd_fits_22 (by decide) ?_
      rw [show (1 : Int64) = (if kq = 0 then 1 else 0) from by rw [if_pos c_18]]
      refine rl_st hx hb hK hP hD hS 1 2 rfl rfl (by omega) (by omega) dMd_fits_26 (fun H locs hP hD hS => ?_)
      have hP : va_P D vwCl [(mo, .inr (5, [.int th, .ref xt, .ref xk, .ref xr, .int (nI nt), .int (nI nk), .int (nI nr), .ref xu, .ref xv, .ref xb, .ref xw, .ref xo, .ref xl, .ref xp, .ref yr, .ref ys, .ref yw, .ref yt, .ref yl, .ref yc, .int (nI wd)])), (yl, .inl (k 2, 8, .inr (.inl (vp_updL (oneL fl kq) kq (if kq = 0 then 1 else 0))))), (yc, .inl (k 2, 8, .inr (.inl fc)))] H := hP
      have hD : va_D A [(mo, .inr (5, [.int th, .ref xt, .ref xk, .ref xr, .int (nI nt), .int (nI nk), .int (nI nr), .ref xu, .ref xv, .ref xb, .ref xw, .ref xo, .ref xl, .ref xp, .ref yr, .ref ys, .ref yw, .ref yt, .ref yl, .ref yc, .int (nI wd)])), (yl, .inl (k 2, 8, .inr (.inl (vp_updL (oneL fl kq) kq (if kq = 0 then 1 else 0))))), (yc, .inl (k 2, 8, .inr (.inl fc)))] := hD
      refine ri_inc (lv' := [(7, .int (nI (kq + 1))), (0, .ref mo), (1, .long zh), (3, .long zl), (5, .int (nI pp)), (6, .int (nI 2))]) (k := 0) (d := 1) hx hb dMd_fits_27 hl rfl (by decide) (by decide) rfl (fun ls hl => ?_)
      refine lv_goto (tgt := 3) hx hb dMd_fits_30 (by decide) ?_
      exact ih _ _ _ ⟨hP, hD, hS, lv_sub hl [0, 1, 2, 3, 4, 5] rfl⟩
  · skip
    refine lv_iload hx hb dMd_fits_3 (lv_at hl 0 rfl) ?_
    refine lv_bipush (v := nI 8) hx hb dMd_fits_5 (by decide) ?_
    refine ri_ge (tgt := 33) hx hb dMd_fits_7 (by decide) (by omega) (by omega) (fun c_7 => ?_) (fun c_7 => absurd c_7 (by omega))
    obtain ⟨hL0, hv0⟩ := oneL_v fl (xVal zh zl)
    refine lv_iconst (v := nI 0) hx hb dMd_fits_33 (by decide) ?_
    refine lv_istore (lv' := [(7, .int (nI 0)), (0, .ref mo), (1, .long zh), (3, .long zl), (5, .int (nI pp)), (6, .int (nI 2))]) hx hb dMd_fits_34 hl (by decide) rfl (fun ls hl => ?_)
    refine lv_iload hx hb dMd_fits_36 (lv_at hl 0 rfl) ?_
    refine lv_iload hx hb dMd_fits_38 (lv_at hl 5 rfl) ?_
    refine ri_ge (tgt := 55) hx hb dMd_fits_40 (by decide) (by omega) (by omega) (fun c_40 => absurd c_40 (by omega)) (fun c_40 => ?_)
    refine lv_aload_n hx hb dMd_fits_43 rfl (lv_at hl 1 rfl) ?_
    refine lv_lload_n hx hb dMd_fits_44 rfl (lv_at hl 2 rfl) ?_
    refine lv_lload_n hx hb dMd_fits_45 rfl (lv_at hl 3 rfl) ?_
    refine rc_v (wr := []) (va_runV (As := [.long zh, .long zl]) (rest := []) ⟨hx, hb, hml, hown, hts⟩ (c_r_times l D k tb H.size mo xt xk xr nt nk nr xu xv xb xw xo xl xp yr ys yw yt yl yc wd th zh zl (oneL fl 8) fc hL0 (xVal_hi hX)) (cwV 2 hts (gV gm_521 gm_522 gm_38 gm_57 gm_523) rfl rfl rfl (by decide +kernel) ⟨Nat.le_of_ble_eq_true rfl, Nat.le_of_ble_eq_true rfl⟩) (cP_V hP hD hK hG hS hA [0, 1, 2] (by decide) rfl (ci := 5) (q0 := 0) rfl rfl) rfl rfl hl.1 rfl (lv_room (Nat.le_of_ble_eq_true rfl)) dMd_fits_46 ⟨Nat.le_of_ble_eq_true rfl, Nat.le_of_ble_eq_true rfl⟩) hS hA hP hD [0, 1, 2] [] rfl rfl (by decide) (by decide) (fun u9 H locs hw hP hD hS => ?_)
    obtain ⟨fl1, fc1⟩ := u9
    have hP : va_P D vwCl [(mo, .inr (5, [.int th, .ref xt, .ref xk, .ref xr, .int (nI nt), .int (nI nk), .int (nI nr), .ref xu, .ref xv, .ref xb, .ref xw, .ref xo, .ref xl, .ref xp, .ref yr, .ref ys, .ref yw, .ref yt, .ref yl, .ref yc, .int (nI wd)])), (yl, .inl (k 2, 8, .inr (.inl fl1))), (yc, .inl (k 2, 8, .inr (.inl fc1)))] H := hP
    have hD : va_D A [(mo, .inr (5, [.int th, .ref xt, .ref xk, .ref xr, .int (nI nt), .int (nI nk), .int (nI nr), .ref xu, .ref xv, .ref xb, .ref xw, .ref xo, .ref xl, .ref xp, .ref yr, .ref ys, .ref yw, .ref yt, .ref yl, .ref yc, .int (nI wd)])), (yl, .inl (k 2, 8, .inr (.inl fl1))), (yc, .inl (k 2, 8, .inr (.inl fc1)))] := hD
    obtain ⟨hL1, hv1⟩ := hw
    have hL1 : L32 fl1 := hL1
    have hv1 : Sg fl1 0 8 = xVal zh zl ^ 1 := Eq.trans hv1 (pw_step hX (by decide) hv0)
    refine ri_inc (lv' := [(7, .int (nI 1)), (0, .ref mo), (1, .long zh), (3, .long zl), (5, .int (nI pp)), (6, .int (nI 2))]) (k := 0) (d := 1) hx hb dMd_fits_49 hl rfl (by decide) (by decide) rfl (fun ls hl => ?_)
    refine lv_goto (tgt := 36) hx hb dMd_fits_52 (by decide) ?_
    refine lv_iload hx hb dMd_fits_36 (lv_at hl 0 rfl) ?_
    refine lv_iload hx hb dMd_fits_38 (lv_at hl 5 rfl) ?_
    refine ri_ge (tgt := 55) hx hb dMd_fits_40 (by decide) (by omega) (by omega) (fun c_40 => absurd c_40 (by omega)) (fun c_40 => ?_)
    refine lv_aload_n hx hb dMd_fits_43 rfl (lv_at hl 1 rfl) ?_
    refine lv_lload_n hx hb dMd_fits_44 rfl (lv_at hl 2 rfl) ?_
    refine lv_lload_n hx hb dMd_fits_45 rfl (lv_at hl 3 rfl) ?_
    refine rc_v (wr := []) (va_runV (As := [.long zh, .long zl]) (rest := []) ⟨hx, hb, hml, hown, hts⟩ (c_r_times l D k tb H.size mo xt xk xr nt nk nr xu xv xb xw xo xl xp yr ys yw yt yl yc wd th zh zl fl1 fc1 hL1 (xVal_hi hX)) (cwV 2 hts (gV gm_521 gm_522 gm_38 gm_57 gm_523) rfl rfl rfl (by decide +kernel) ⟨Nat.le_of_ble_eq_true rfl, Nat.le_of_ble_eq_true rfl⟩) (cP_V hP hD hK hG hS hA [0, 1, 2] (by decide) rfl (ci := 5) (q0 := 0) rfl rfl) rfl rfl hl.1 rfl (lv_room (Nat.le_of_ble_eq_true rfl)) dMd_fits_46 ⟨Nat.le_of_ble_eq_true rfl, Nat.le_of_ble_eq_true rfl⟩) hS hA hP hD [0, 1, 2] [] rfl rfl (by decide) (by decide) (fun u9 H locs hw hP hD hS => ?_)
    obtain ⟨fl2, fc2⟩ := u9
    have hP : va_P D vwCl [(mo, .inr (5, [.int th, .ref xt, .ref xk, .ref xr, .int (nI nt), .int (nI nk), .int (nI nr), .ref xu, .ref xv, .ref xb, .ref xw, .ref xo, .ref xl, .ref xp, .ref yr, .ref ys, .ref yw, .ref yt, .ref yl, .ref yc, .int (nI wd)])), (yl, .inl (k 2, 8, .inr (.inl fl2))), (yc, .inl (k 2, 8, .inr (.inl fc2)))] H := hP
    have hD : va_D A [(mo, .inr (5, [.int th, .ref xt, .ref xk, .ref xr, .int (nI nt), .int (nI nk), .int (nI nr), .ref xu, .ref xv, .ref xb, .ref xw, .ref xo, .ref xl, .ref xp, .ref yr, .ref ys, .ref yw, .ref yt, .ref yl, .ref yc, .int (nI wd)])), (yl, .inl (k 2, 8, .inr (.inl fl2))), (yc, .inl (k 2, 8, .inr (.inl fc2)))] := hD
    obtain ⟨hL2, hv2⟩ := hw
    have hL2 : L32 fl2 := hL2
    have hv2 : Sg fl2 0 8 = xVal zh zl ^ 2 := Eq.trans hv2 (pw_step hX (by decide) hv1)
    refine ri_inc (lv' := [(7, .int (nI 2)), (0, .ref mo), (1, .long zh), (3, .long zl), (5, .int (nI pp)), (6, .int (nI 2))]) (k := 0) (d := 1) hx hb dMd_fits_49 hl rfl (by decide) (by decide) rfl (fun ls hl => ?_)
    refine lv_goto (tgt := 36) hx hb dMd_fits_52 (by decide) ?_
    refine lv_iload hx hb dMd_fits_36 (lv_at hl 0 rfl) ?_
    refine lv_iload hx hb dMd_fits_38 (lv_at hl 5 rfl) ?_
    refine ri_ge (tgt := 55) hx hb dMd_fits_40 (by decide) (by omega) (by omega) (fun c_40 => ?_) (fun c_40 => absurd c_40 (by omega))
    have htp : uv (ll (ll (ll (ll 0 32 ||| fl2 7) 32 ||| fl2 6) 32 ||| fl2 5) 32 ||| fl2 4) = xVal zh zl ^ 2 / 2 ^ (32 * 4) := top2 hL2 hv2 (div2 (pow_lt2 hX))
    have hbt : uv (ll (ll (ll (ll 0 32 ||| fl2 7) 32 ||| fl2 6) 32 ||| fl2 5) 32 ||| fl2 4) < 2 ^ 63 := tb2 htp (pow_lt2 hX)
    refine lv_lconst (v := 0) hx hb dMd_fits_55 (by decide) ?_
    refine lv_lstore (lv' := [(7, .long 0), (0, .ref mo), (1, .long zh), (3, .long zl), (5, .int (nI pp)), (6, .int (nI 2))]) hx hb dMd_fits_56 hl (by decide) rfl (fun ls hl => ?_)
    refine lv_bipush (v := nI 7) hx hb dMd_fits_58 (by decide) ?_
    refine lv_istore (lv' := [(9, .int (nI 7)), (7, .long 0), (0, .ref mo), (1, .long zh), (3, .long zl), (5, .int (nI pp)), (6, .int (nI 2))]) hx hb dMd_fits_60 hl (by decide) rfl (fun ls hl => ?_)
    refine lv_iload hx hb dMd_fits_62 (lv_at hl 0 rfl) ?_
    refine lv_iconst (v := nI 2) hx hb dMd_fits_64 (by decide) ?_
    refine lv_iload hx hb dMd_fits_65 (lv_at hl 6 rfl) ?_
    refine ri_mul hx hb dMd_fits_67 ?_
    refine ri_lt (tgt := 92) hx hb dMd_fits_68 (by decide) (by omega) (by omega) (fun c_68 => absurd c_68 (by omega)) (fun c_68 => ?_)
    refine lv_lload hx hb dMd_fits_71 (lv_at hl 1 rfl) ?_
    refine lv_bipush (v := 32) hx hb dMd_fits_73 (by decide) ?_
    refine lv_lshl (v := ll 0 32) hx hb dMd_fits_75 rfl ?_
    refine lv_aload_n hx hb dMd_fits_76 rfl (lv_at hl 2 rfl) ?_
    refine va_get (D := D) (ci := 5) (v := .ref yl) (C := R_Md) (T := T_Md) (N := 21) hx hb hts in_Md hown hK hP 0 rfl rfl 18 (by decide) (hts _ gm_543) (fun _ h9 => h9) rfl dMd_fits_77 ?_
    refine lv_iload hx hb dMd_fits_80 (lv_at hl 0 rfl) ?_
    refine rl_ld hx hb hK hP 1 2 rfl rfl (by omega) (by omega) dMd_fits_82 ?_
    refine lv_lor hx hb dMd_fits_83 ?_
    refine lv_lstore (lv' := [(7, .long ((ll 0 32) ||| (fl2 7))), (9, .int (nI 7)), (0, .ref mo), (1, .long zh), (3, .long zl), (5, .int (nI pp)), (6, .int (nI 2))]) hx hb dMd_fits_84 hl (by decide) rfl (fun ls hl => ?_)
    refine ri_dec (lv' := [(9, .int (nI 6)), (7, .long ((ll 0 32) ||| (fl2 7))), (0, .ref mo), (1, .long zh), (3, .long zl), (5, .int (nI pp)), (6, .int (nI 2))]) (k := 1) (a := 6) hx hb dMd_fits_86 hl rfl (by decide) rfl (fun ls hl => ?_)
    refine lv_goto (tgt := 62) hx hb dMd_fits_89 (by decide) ?_
    refine lv_iload hx hb dMd_fits_62 (lv_at hl 0 rfl) ?_
    refine lv_iconst (v := nI 2) hx hb dMd_fits_64 (by decide) ?_
    refine lv_iload hx hb dMd_fits_65 (lv_at hl 6 rfl) ?_
    refine ri_mul hx hb dMd_fits_67 ?_
    refine ri_lt (tgt := 92) hx hb dMd_fits_68 (by decide) (by omega) (by omega) (fun c_68 => absurd c_68 (by omega)) (fun c_68 => ?_)
    refine lv_lload hx hb dMd_fits_71 (lv_at hl 1 rfl) ?_
    refine lv_bipush (v := 32) hx hb dMd_fits_73 (by decide) ?_
    refine lv_lshl (v := ll ((ll 0 32) ||| (fl2 7)) 32) hx hb dMd_fits_75 rfl ?_
    refine lv_aload_n hx hb dMd_fits_76 rfl (lv_at hl 2 rfl) ?_
    refine va_get (D := D) (ci := 5) (v := .ref yl) (C := R_Md) (T := T_Md) (N := 21) hx hb hts in_Md hown hK hP 0 rfl rfl 18 (by decide) (hts _ gm_543) (fun _ h9 => h9) rfl dMd_fits_77 ?_
    refine lv_iload hx hb dMd_fits_80 (lv_at hl 0 rfl) ?_
    refine rl_ld hx hb hK hP 1 2 rfl rfl (by omega) (by omega) dMd_fits_82 ?_
    refine lv_lor hx hb dMd_fits_83 ?_
    refine lv_lstore (lv' := [(7, .long ((ll ((ll 0 32) ||| (fl2 7)) 32) ||| (fl2 6))), (9, .int (nI 6)), (0, .ref mo), (1, .long zh), (3, .long zl), (5, .int (nI pp)), (6, .int (nI 2))]) hx hb dMd_fits_84 hl (by decide) rfl (fun ls hl => ?_)
    refine ri_dec (lv' := [(9, .int (nI 5)), (7, .long ((ll ((ll 0 32) ||| (fl2 7)) 32) ||| (fl2 6))), (0, .ref mo), (1, .long zh), (3, .long zl), (5, .int (nI pp)), (6, .int (nI 2))]) (k := 1) (a := 5) hx hb dMd_fits_86 hl rfl (by decide) rfl (fun ls hl => ?_)
    refine lv_goto (tgt := 62) hx hb dMd_fits_89 (by decide) ?_
    refine lv_iload hx hb dMd_fits_62 (lv_at hl 0 rfl) ?_
    refine lv_iconst (v := nI 2) hx hb dMd_fits_64 (by decide) ?_
    refine lv_iload hx hb dMd_fits_65 (lv_at hl 6 rfl) ?_
    refine ri_mul hx hb dMd_fits_67 ?_
    refine ri_lt (tgt := 92) hx hb dMd_fits_68 (by decide) (by omega) (by omega) (fun c_68 => absurd c_68 (by omega)) (fun c_68 => ?_)
    refine lv_lload hx hb dMd_fits_71 (lv_at hl 1 rfl) ?_
    refine lv_bipush (v := 32) hx hb dMd_fits_73 (by decide) ?_
    refine lv_lshl (v := ll ((ll ((ll 0 32) ||| (fl2 7)) 32) ||| (fl2 6)) 32) hx hb dMd_fits_75 rfl ?_
    refine lv_aload_n hx hb dMd_fits_76 rfl (lv_at hl 2 rfl) ?_
    refine va_get (D := D) (ci := 5) (v := .ref yl) (C := R_Md) (T := T_Md) (N := 21) hx hb hts in_Md hown hK hP 0 rfl rfl 18 (by decide) (hts _ gm_543) (fun _ h9 => h9) rfl dMd_fits_77 ?_
    refine lv_iload hx hb dMd_fits_80 (lv_at hl 0 rfl) ?_
    refine rl_ld hx hb hK hP 1 2 rfl rfl (by omega) (by omega) dMd_fits_82 ?_
    refine lv_lor hx hb dMd_fits_83 ?_
    refine lv_lstore (lv' := [(7, .long ((ll ((ll ((ll 0 32) ||| (fl2 7)) 32) ||| (fl2 6)) 32) ||| (fl2 5))), (9, .int (nI 5)), (0, .ref mo), (1, .long zh), (3, .long zl), (5, .int (nI pp)), (6, .int (nI 2))]) hx hb dMd_fits_84 hl (by decide) rfl (fun ls hl => ?_)
    refine ri_dec (lv' := [(9, .int (nI 4)), (7, .long ((ll ((ll ((ll 0 32) ||| (fl2 7)) 32) ||| (fl2 6)) 32) ||| (fl2 5))), (0, .ref mo), (1, .long zh), (3, .long zl), (5, .int (nI pp)), (6, .int (nI 2))]) (k := 1) (a := 4) hx hb dMd_fits_86 hl rfl (by decide) rfl (fun ls hl => ?_)
    refine lv_goto (tgt := 62) hx hb dMd_fits_89 (by decide) ?_
    refine lv_iload hx hb dMd_fits_62 (lv_at hl 0 rfl) ?_
    refine lv_iconst (v := nI 2) hx hb dMd_fits_64 (by decide) ?_
    refine lv_iload hx hb dMd_fits_65 (lv_at hl 6 rfl) ?_
    refine ri_mul hx hb dMd_fits_67 ?_
    refine ri_lt (tgt := 92) hx hb dMd_fits_68 (by decide) (by omega) (by omega) (fun c_68 => absurd c_68 (by omega)) (fun c_68 => ?_)
    refine lv_lload hx hb dMd_fits_71 (lv_at hl 1 rfl) ?_
    refine lv_bipush (v := 32) hx hb dMd_fits_73 (by decide) ?_
    refine lv_lshl (v := ll ((ll ((ll ((ll 0 32) ||| (fl2 7)) 32) ||| (fl2 6)) 32) ||| (fl2 5)) 32) hx hb dMd_fits_75 rfl ?_
    refine lv_aload_n hx hb dMd_fits_76 rfl (lv_at hl 2 rfl) ?_
    refine va_get (D := D) (ci := 5) (v := .ref yl) (C := R_Md) (T := T_Md) (N := 21) hx hb hts in_Md hown hK hP 0 rfl rfl 18 (by decide) (hts _ gm_543) (fun _ h9 => h9) rfl dMd_fits_77 ?_
    refine lv_iload hx hb dMd_fits_80 (lv_at hl 0 rfl) ?_
    refine rl_ld hx hb hK hP 1 2 rfl rfl (by omega) (by omega) dMd_fits_82 ?_
    refine lv_lor hx hb dMd_fits_83 ?_
    refine lv_lstore (lv' := [(7, .long ((ll ((ll ((ll ((ll 0 32) ||| (fl2 7)) 32) ||| (fl2 6)) 32) ||| (fl2 5)) 32) ||| (fl2 4))), (9, .int (nI 4)), (0, .ref mo), (1, .long zh), (3, .long zl), (5, .int (nI pp)), (6, .int (nI 2))]) hx hb dMd_fits_84 hl (by decide) rfl (fun ls hl => ?_)
    refine ri_dec (lv' := [(9, .int (nI 3)), (7, .long ((ll ((ll ((ll ((ll 0 32) ||| (fl2 7)) 32) ||| (fl2 6)) 32) ||| (fl2 5)) 32) ||| (fl2 4))), (0, .ref mo), (1, .long zh), (3, .long zl), (5, .int (nI pp)), (6, .int (nI 2))]) (k := 1) (a := 3) hx hb dMd_fits_86 hl rfl (by decide) rfl (fun ls hl => ?_)
    refine lv_goto (tgt := 62) hx hb dMd_fits_89 (by decide) ?_
    refine lv_iload hx hb dMd_fits_62 (lv_at hl 0 rfl) ?_
    refine lv_iconst (v := nI 2) hx hb dMd_fits_64 (by decide) ?_
    refine lv_iload hx hb dMd_fits_65 (lv_at hl 6 rfl) ?_
    refine ri_mul hx hb dMd_fits_67 ?_
    refine ri_lt (tgt := 92) hx hb dMd_fits_68 (by decide) (by omega) (by omega) (fun c_68 => ?_) (fun c_68 => absurd c_68 (by omega))
    refine lv_lload hx hb dMd_fits_92 (lv_at hl 1 rfl) ?_
    refine lv_iload hx hb dMd_fits_94 (lv_at hl 5 rfl) ?_
    refine lv_i2l (v := (nI pp).toInt64) hx hb dMd_fits_96 rfl ?_
    rw [nI_l (by omega)]
    refine W.lcmp hx hb dMd_fits_97 ?_
    refine lv_if_eq (tgt := 116) hx hb dMd_fits_98 (by decide) (fun c_98 => ?_) (fun c_98 => ?_)
    · skip
      have hte := (lg_cmp_eq _ _).mp c_98
      refine lv_iconst (v := nI 0) hx hb dMd_fits_116 (by decide) ?_
      refine lv_istore (lv' := [(9, .int (nI 0)), (7, .long ((ll ((ll ((ll ((ll 0 32) ||| (fl2 7)) 32) ||| (fl2 6)) 32) ||| (fl2 5)) 32) ||| (fl2 4))), (0, .ref mo), (1, .long zh), (3, .long zl), (5, .int (nI pp)), (6, .int (nI 2))]) hx hb dMd_fits_117 hl (by decide) rfl (fun ls hl => ?_)
      refine lv_iload hx hb dMd_fits_119 (lv_at hl 0 rfl) ?_
      refine lv_iconst (v := nI 2) hx hb dMd_fits_121 (by decide) ?_
      refine lv_iload hx hb dMd_fits_122 (lv_at hl 6 rfl) ?_
      refine ri_mul hx hb dMd_fits_124 ?_
      refine ri_ge (tgt := 148) hx hb dMd_fits_125 (by decide) (by omega) (by omega) (fun c_125 => absurd c_125 (by omega)) (fun c_125 => ?_)
      refine lv_aload_n hx hb dMd_fits_128 rfl (lv_at hl 2 rfl) ?_
      refine va_get (D := D) (ci := 5) (v := .ref yl) (C := R_Md) (T := T_Md) (N := 21) hx hb hts in_Md hown hK hP 0 rfl rfl 18 (by decide) (hts _ gm_543) (fun _ h9 => h9) rfl dMd_fits_129 ?_
      refine lv_iload hx hb dMd_fits_132 (lv_at hl 0 rfl) ?_
      refine rl_ld hx hb hK hP 1 2 rfl rfl (by omega) (by omega) dMd_fits_134 ?_
      refine lv_lconst (v := 0) hx hb dMd_fits_135 (by decide) ?_
      refine W.lcmp hx hb dMd_fits_136 ?_
      refine lv_if_eq (tgt := 142) hx hb dMd_fits_137 (by decide) (fun c_137 => ?_) (fun c_137 => ?_)
      · skip
        have hz0 : fl2 0 = 0 := (lg_cmp_eq _ _).mp c_137
        refine ri_inc (lv' := [(9, .int (nI 1)), (7, .long ((ll ((ll ((ll ((ll 0 32) ||| (fl2 7)) 32) ||| (fl2 6)) 32) ||| (fl2 5)) 32) ||| (fl2 4))), (0, .ref mo), (1, .long zh), (3, .long zl), (5, .int (nI pp)), (6, .int (nI 2))]) (k := 0) (d := 1) hx hb dMd_fits_142 hl rfl (by decide) (by decide) rfl (fun ls hl => ?_)
        refine lv_goto (tgt := 119) hx hb dMd_fits_145 (by decide) ?_
        refine lv_iload hx hb dMd_fits_119 (lv_at hl 0 rfl) ?_
        refine lv_iconst (v := nI 2) hx hb dMd_fits_121 (by decide) ?_
        refine lv_iload hx hb dMd_fits_122 (lv_at hl 6 rfl) ?_
        refine ri_mul hx hb dMd_fits_124 ?_
        refine ri_ge (tgt := 148) hx hb dMd_fits_125 (by decide) (by omega) (by omega) (fun c_125 => absurd c_125 (by omega)) (fun c_125 => ?_)
        refine lv_aload_n hx hb dMd_fits_128 rfl (lv_at hl 2 rfl) ?_
        refine va_get (D := D) (ci := 5) (v := .ref yl) (C := R_Md) (T := T_Md) (N := 21) hx hb hts in_Md hown hK hP 0 rfl rfl 18 (by decide) (hts _ gm_543) (fun _ h9 => h9) rfl dMd_fits_129 ?_
        refine lv_iload hx hb dMd_fits_132 (lv_at hl 0 rfl) ?_
        refine rl_ld hx hb hK hP 1 2 rfl rfl (by omega) (by omega) dMd_fits_134 ?_
        refine lv_lconst (v := 0) hx hb dMd_fits_135 (by decide) ?_
        refine W.lcmp hx hb dMd_fits_136 ?_
        refine lv_if_eq (tgt := 142) hx hb dMd_fits_137 (by decide) (fun c_137 => ?_) (fun c_137 => ?_)
        · skip
          have hz1 : fl2 1 = 0 := (lg_cmp_eq _ _).mp c_137
          refine ri_inc (lv' := [(9, .int (nI 2)), (7, .long ((ll ((ll ((ll ((ll 0 32) ||| (fl2 7)) 32) ||| (fl2 6)) 32) ||| (fl2 5)) 32) ||| (fl2 4))), (0, .ref mo), (1, .long zh), (3, .long zl), (5, .int (nI pp)), (6, .int (nI 2))]) (k := 0) (d := 1) hx hb dMd_fits_142 hl rfl (by decide) (by decide) rfl (fun ls hl => ?_)
          refine lv_goto (tgt := 119) hx hb dMd_fits_145 (by decide) ?_
          refine lv_iload hx hb dMd_fits_119 (lv_at hl 0 rfl) ?_
          refine lv_iconst (v := nI 2) hx hb dMd_fits_121 (by decide) ?_
          refine lv_iload hx hb dMd_fits_122 (lv_at hl 6 rfl) ?_
          refine ri_mul hx hb dMd_fits_124 ?_
          refine ri_ge (tgt := 148) hx hb dMd_fits_125 (by decide) (by omega) (by omega) (fun c_125 => absurd c_125 (by omega)) (fun c_125 => ?_)
          refine lv_aload_n hx hb dMd_fits_128 rfl (lv_at hl 2 rfl) ?_
          refine va_get (D := D) (ci := 5) (v := .ref yl) (C := R_Md) (T := T_Md) (N := 21) hx hb hts in_Md hown hK hP 0 rfl rfl 18 (by decide) (hts _ gm_543) (fun _ h9 => h9) rfl dMd_fits_129 ?_
          refine lv_iload hx hb dMd_fits_132 (lv_at hl 0 rfl) ?_
          refine rl_ld hx hb hK hP 1 2 rfl rfl (by omega) (by omega) dMd_fits_134 ?_
          refine lv_lconst (v := 0) hx hb dMd_fits_135 (by decide) ?_
          refine W.lcmp hx hb dMd_fits_136 ?_
          refine lv_if_eq (tgt := 142) hx hb dMd_fits_137 (by decide) (fun c_137 => ?_) (fun c_137 => ?_)
          · skip
            have hz2 : fl2 2 = 0 := (lg_cmp_eq _ _).mp c_137
            refine ri_inc (lv' := [(9, .int (nI 3)), (7, .long ((ll ((ll ((ll ((ll 0 32) ||| (fl2 7)) 32) ||| (fl2 6)) 32) ||| (fl2 5)) 32) ||| (fl2 4))), (0, .ref mo), (1, .long zh), (3, .long zl), (5, .int (nI pp)), (6, .int (nI 2))]) (k := 0) (d := 1) hx hb dMd_fits_142 hl rfl (by decide) (by decide) rfl (fun ls hl => ?_)
            refine lv_goto (tgt := 119) hx hb dMd_fits_145 (by decide) ?_
            refine lv_iload hx hb dMd_fits_119 (lv_at hl 0 rfl) ?_
            refine lv_iconst (v := nI 2) hx hb dMd_fits_121 (by decide) ?_
            refine lv_iload hx hb dMd_fits_122 (lv_at hl 6 rfl) ?_
            refine ri_mul hx hb dMd_fits_124 ?_
            refine ri_ge (tgt := 148) hx hb dMd_fits_125 (by decide) (by omega) (by omega) (fun c_125 => absurd c_125 (by omega)) (fun c_125 => ?_)
            refine lv_aload_n hx hb dMd_fits_128 rfl (lv_at hl 2 rfl) ?_
            refine va_get (D := D) (ci := 5) (v := .ref yl) (C := R_Md) (T := T_Md) (N := 21) hx hb hts in_Md hown hK hP 0 rfl rfl 18 (by decide) (hts _ gm_543) (fun _ h9 => h9) rfl dMd_fits_129 ?_
            refine lv_iload hx hb dMd_fits_132 (lv_at hl 0 rfl) ?_
            refine rl_ld hx hb hK hP 1 2 rfl rfl (by omega) (by omega) dMd_fits_134 ?_
            refine lv_lconst (v := 0) hx hb dMd_fits_135 (by decide) ?_
            refine W.lcmp hx hb dMd_fits_136 ?_
            refine lv_if_eq (tgt := 142) hx hb dMd_fits_137 (by decide) (fun c_137 => ?_) (fun c_137 => ?_)
            · skip
              have hz3 : fl2 3 = 0 := (lg_cmp_eq _ _).mp c_137
              refine ri_inc (lv' := [(9, .int (nI 4)), (7, .long ((ll ((ll ((ll ((ll 0 32) ||| (fl2 7)) 32) ||| (fl2 6)) 32) ||| (fl2 5)) 32) ||| (fl2 4))), (0, .ref mo), (1, .long zh), (3, .long zl), (5, .int (nI pp)), (6, .int (nI 2))]) (k := 0) (d := 1) hx hb dMd_fits_142 hl rfl (by decide) (by decide) rfl (fun ls hl => ?_)
              refine lv_goto (tgt := 119) hx hb dMd_fits_145 (by decide) ?_
              refine lv_iload hx hb dMd_fits_119 (lv_at hl 0 rfl) ?_
              refine lv_iconst (v := nI 2) hx hb dMd_fits_121 (by decide) ?_
              refine lv_iload hx hb dMd_fits_122 (lv_at hl 6 rfl) ?_
              refine ri_mul hx hb dMd_fits_124 ?_
              refine ri_ge (tgt := 148) hx hb dMd_fits_125 (by decide) (by omega) (by omega) (fun c_125 => ?_) (fun c_125 => absurd c_125 (by omega))
              refine lv_iconst (v := nI 1) hx hb dMd_fits_148 (by decide) ?_
              refine W.widen (k := 0) (n := 0) (Nat.le_refl _) (Nat.le_refl _) ?_
              exact W.zret (v := nI 1) hx hb hr (by decide +kernel) (fun t ht hW => ⟨⟨nI 1, (fl2, fc2), rfl, fN_yes hL2 (by decide) hv2 htp (by omega) hte (all4 hz0 hz1 hz2 hz3), by rw [ht]; exact hP, hD⟩, hS.F ht⟩) hS.2.2 dMd_fits_149
            · skip
              refine lv_iconst (v := nI 0) hx hb dMd_fits_140 (by decide) ?_
              refine W.widen (k := 0) (n := 0) (Nat.le_refl _) (Nat.le_refl _) ?_
              exact W.zret (v := nI 0) hx hb hr (by decide +kernel) (fun t ht hW => ⟨⟨nI 0, (fl2, fc2), rfl, fN_no hL2 (by decide) hv2 htp (by omega) hte (j := 3) (by decide) (fun h9 => c_137 ((lg_cmp_eq _ _).mpr h9)), by rw [ht]; exact hP, hD⟩, hS.F ht⟩) hS.2.2 dMd_fits_141
          · skip
            refine lv_iconst (v := nI 0) hx hb dMd_fits_140 (by decide) ?_
            refine W.widen (k := 0) (n := 0) (Nat.le_refl _) (Nat.le_refl _) ?_
            exact W.zret (v := nI 0) hx hb hr (by decide +kernel) (fun t ht hW => ⟨⟨nI 0, (fl2, fc2), rfl, fN_no hL2 (by decide) hv2 htp (by omega) hte (j := 2) (by decide) (fun h9 => c_137 ((lg_cmp_eq _ _).mpr h9)), by rw [ht]; exact hP, hD⟩, hS.F ht⟩) hS.2.2 dMd_fits_141
        · skip
          refine lv_iconst (v := nI 0) hx hb dMd_fits_140 (by decide) ?_
          refine W.widen (k := 0) (n := 0) (Nat.le_refl _) (Nat.le_refl _) ?_
          exact W.zret (v := nI 0) hx hb hr (by decide +kernel) (fun t ht hW => ⟨⟨nI 0, (fl2, fc2), rfl, fN_no hL2 (by decide) hv2 htp (by omega) hte (j := 1) (by decide) (fun h9 => c_137 ((lg_cmp_eq _ _).mpr h9)), by rw [ht]; exact hP, hD⟩, hS.F ht⟩) hS.2.2 dMd_fits_141
      · skip
        refine lv_iconst (v := nI 0) hx hb dMd_fits_140 (by decide) ?_
        refine W.widen (k := 0) (n := 0) (Nat.le_refl _) (Nat.le_refl _) ?_
        exact W.zret (v := nI 0) hx hb hr (by decide +kernel) (fun t ht hW => ⟨⟨nI 0, (fl2, fc2), rfl, fN_no hL2 (by decide) hv2 htp (by omega) hte (j := 0) (by decide) (fun h9 => c_137 ((lg_cmp_eq _ _).mpr h9)), by rw [ht]; exact hP, hD⟩, hS.F ht⟩) hS.2.2 dMd_fits_141
    · skip
      refine lv_lload hx hb dMd_fits_101 (lv_at hl 1 rfl) ?_
      refine lv_iload hx hb dMd_fits_103 (lv_at hl 5 rfl) ?_
      refine lv_i2l (v := (nI pp).toInt64) hx hb dMd_fits_105 rfl ?_
      rw [nI_l (by omega)]
      refine W.lcmp hx hb dMd_fits_106 ?_
      refine lv_if_ge (tgt := 114) hx hb dMd_fits_107 (by decide) (fun c_107 => ?_) (fun c_107 => ?_)
      · skip
        refine lv_iconst (v := nI 0) hx hb dMd_fits_114 (by decide) ?_
        refine W.widen (k := 0) (n := 0) (Nat.le_refl _) (Nat.le_refl _) ?_
        exact W.zret (v := nI 0) hx hb hr (by decide +kernel) (fun t ht hW => ⟨⟨nI 0, (fl2, fc2), rfl, fN_gt (Nat.pow_pos (by decide)) htp hbt (by omega) (fun h9 => absurd ((lg_cmp_lt _ _).mpr h9) (Int32.not_lt.mpr c_107)) (fun h9 => c_98 ((lg_cmp_eq _ _).mpr h9)), by rw [ht]; exact hP, hD⟩, hS.F ht⟩) hS.2.2 dMd_fits_115
      · skip
        refine lv_iconst (v := nI 1) hx hb dMd_fits_110 (by decide) ?_
        refine lv_goto (tgt := 115) hx hb dMd_fits_111 (by decide) ?_
        refine W.widen (k := 0) (n := 0) (Nat.le_refl _) (Nat.le_refl _) ?_
        exact W.zret (v := nI 1) hx hb hr (by decide +kernel) (fun t ht hW => ⟨⟨nI 1, (fl2, fc2), rfl, fN_lt (Nat.pow_pos (by decide)) htp hbt (by omega) ((lg_cmp_lt _ _).mp (Int32.not_le.mp c_107)), by rw [ht]; exact hP, hD⟩, hS.F ht⟩) hS.2.2 dMd_fits_115
set_option maxHeartbeats 600000 in
set_option maxRecDepth 100000 in
theorem c_r_fits3 (l : Launch) (D : va_G) (k : Nat → ClassId) (tb : Nat → Nat) (sz : Nat) (mo xt xk xr nt nk nr xu xv xb xw xo xl xp yr ys yw yt yl yc wd : Nat) (th : Int32) (zh zl : Int64) (pp : Nat) (fl fc : Nat → Int64) (hX : xVal zh zl < 2 ^ 67) (hp : pp < 512) : Met l yMd_fits wMd_fits ({ frames := 1, cells := 0, slots := 0, locals := 32 }) (cP D k tb [(mo, .inr (5, [.int th, .ref xt, .ref xk, .ref xr, .int (nI nt), .int (nI nk), .int (nI nr), .ref xu, .ref xv, .ref xb, .ref xw, .ref xo, .ref xl, .ref xp, .ref yr, .ref ys, .ref yw, .ref yt, .ref yl, .ref yc, .int (nI wd)])), (yl, .inl (k 2, 8, .inr (.inl fl))), (yc, .inl (k 2, 8, .inr (.inl fc)))] sz [.ref mo, .long zh, .long zl, .int (nI pp), .int (nI 3)]) (va_Qi (fun (r : Int32) (u : (Nat → Int64) × (Nat → Int64)) => r = fN (xVal zh zl ^ 3) (pp * 2 ^ (32 * 6))) (fun (u : (Nat → Int64) × (Nat → Int64)) (t : State) => va_P D vwCl [(mo, .inr (5, [.int th, .ref xt, .ref xk, .ref xr, .int (nI nt), .int (nI nk), .int (nI nr), .ref xu, .ref xv, .ref xb, .ref xw, .ref xo, .ref xl, .ref xp, .ref yr, .ref ys, .ref yw, .ref yt, .ref yl, .ref yc, .int (nI wd)])), (yl, .inl (k 2, 8, .inr (.inl u.1))), (yc, .inl (k 2, 8, .inr (.inl u.2)))] t.heap ∧ va_D (va_A [(mo, .inr (5, [.int th, .ref xt, .ref xk, .ref xr, .int (nI nt), .int (nI nk), .int (nI nr), .ref xu, .ref xv, .ref xb, .ref xw, .ref xo, .ref xl, .ref xp, .ref yr, .ref ys, .ref yw, .ref yt, .ref yl, .ref yc, .int (nI wd)])), (yl, .inl (k 2, 8, .inr (.inl fl))), (yc, .inl (k 2, 8, .inr (.inl fc)))] sz) [(mo, .inr (5, [.int th, .ref xt, .ref xk, .ref xr, .int (nI nt), .int (nI nk), .int (nI nr), .ref xu, .ref xv, .ref xb, .ref xw, .ref xo, .ref xl, .ref xp, .ref yr, .ref ys, .ref yw, .ref yt, .ref yl, .ref yc, .int (nI wd)])), (yl, .inl (k 2, 8, .inr (.inl u.1))), (yc, .inl (k 2, 8, .inr (.inl u.2)))]) (va_A [(mo, .inr (5, [.int th, .ref xt, .ref xk, .ref xr, .int (nI nt), .int (nI nk), .int (nI nr), .ref xu, .ref xv, .ref xb, .ref xw, .ref xo, .ref xl, .ref xp, .ref yr, .ref ys, .ref yw, .ref yt, .ref yl, .ref yc, .int (nI wd)])), (yl, .inl (k 2, 8, .inr (.inl fl))), (yc, .inl (k 2, 8, .inr (.inl fc)))] sz)) (0) (0) (va_A [(mo, .inr (5, [.int th, .ref xt, .ref xk, .ref xr, .int (nI nt), .int (nI nk), .int (nI nr), .ref xu, .ref xv, .ref xb, .ref xw, .ref xo, .ref xl, .ref xp, .ref yr, .ref ys, .ref yw, .ref yt, .ref yl, .ref yc, .int (nI wd)])), (yl, .inl (k 2, 8, .inr (.inl fl))), (yc, .inl (k 2, 8, .inr (.inl fc)))] sz) := by
  refine Met.ofW (cc := cMd_fits) (maxL := 10) (ret := (some .boolean)) (by decide) rfl ?_
  intro p e s m args below meth c s₁ B hml hv
  obtain ⟨rfl, hsz, hP, hK, hD0, hG⟩ := hv
  have hx := B.exec
  have hb := B.bytes
  have hr := B.returns
  have hts : ∀ w ∈ GT, w.before _ s = true := fun w h => atoms_spec (ws := wMd_fits) B.pre w (List.mem_cons_of_mem _ h)
  have hown : s.vm.findClass R_Md = some m.cls := findClass_of_methodNamed B.named
  have hlocks := B.notSynchronized
  subst hsz
  have hD := hD0.self (sz := s.heap.size)
  generalize hAe : va_A [(mo, .inr (5, [.int th, .ref xt, .ref xk, .ref xr, .int (nI nt), .int (nI nk), .int (nI nr), .ref xu, .ref xv, .ref xb, .ref xw, .ref xo, .ref xl, .ref xp, .ref yr, .ref ys, .ref yw, .ref yt, .ref yl, .ref yc, .int (nI wd)])), (yl, .inl (k 2, 8, .inr (.inl fl))), (yc, .inl (k 2, 8, .inr (.inl fc)))] s.heap.size = A at hD hG ⊢
  have hA : ∀ q : Nat, s.heap.size ≤ q → A q := fun q h => by rw [← hAe]; exact Or.inr h
  have hl := lv_entry ([.ref mo, .long zh, .long zl, .int (nI pp), .int (nI 3)]) (n := 10) (Nat.le_of_ble_eq_true rfl)
  rw [lg_entry_eq]
  generalize (lg_sl ([.ref mo, .long zh, .long zl, .int (nI pp), .int (nI 3)]) ++ List.replicate (10 - (lg_sl ([.ref mo, .long zh, .long zl, .int (nI pp), .int (nI 3)])).length) Slot.unset).toArray = ls at hl ⊢
  have hl : lv_has ls 10 [(0, .ref mo), (1, .long zh), (3, .long zl), (5, .int (nI pp)), (6, .int (nI 3))] := hl
  refine cw_start (A := A) hP (fun H locs hP hS => ?_)
  refine lv_iconst (v := nI 0) hx hb dMd_fits_0 (by decide) ?_
  refine lv_istore (lv' := [(7, .int (nI 0)), (0, .ref mo), (1, .long zh), (3, .long zl), (5, .int (nI pp)), (6, .int (nI 3))]) hx hb dMd_fits_1 hl (by decide) rfl (fun ls hl => ?_)
  refine ri_loop (fun kq H locs ls => va_P D vwCl [(mo, .inr (5, [.int th, .ref xt, .ref xk, .ref xr, .int (nI nt), .int (nI nk), .int (nI nr), .ref xu, .ref xv, .ref xb, .ref xw, .ref xo, .ref xl, .ref xp, .ref yr, .ref ys, .ref yw, .ref yt, .ref yl, .ref yc, .int (nI wd)])), (yl, .inl (k 2, 8, .inr (.inl (oneL fl kq)))), (yc, .inl (k 2, 8, .inr (.inl fc)))] H ∧ va_D A [(mo, .inr (5, [.int th, .ref xt, .ref xk, .ref xr, .int (nI nt), .int (nI nk), .int (nI nr), .ref xu, .ref xv, .ref xb, .ref xw, .ref xo, .ref xl, .ref xp, .ref yr, .ref ys, .ref yw, .ref yt, .ref yl, .ref yc, .int (nI wd)])), (yl, .inl (k 2, 8, .inr (.inl (oneL fl kq)))), (yc, .inl (k 2, 8, .inr (.inl fc)))] ∧ va_S A s.heap H locs ∧ lv_has ls 10 [(7, .int (nI kq)), (0, .ref mo), (1, .long zh), (3, .long zl), (5, .int (nI pp)), (6, .int (nI 3))]) 8 0 ⟨hP, hD, hS, lv_sub hl [0, 1, 2, 3, 4, 5] rfl⟩ (by omega) (fun kq H locs ls lt_kq ⟨hP, hD, hS, hl⟩ ih => ?_) (fun H locs ls ⟨hP, hD, hS, hl⟩ => ?_)
  · skip
    refine lv_iload hx hb dMd_fits_3 (lv_at hl 0 rfl) ?_
    refine lv_bipush (v := nI 8) hx hb dMd_fits_5 (by decide) ?_
    refine ri_ge (tgt := 33) hx hb dMd_fits_7 (by decide) (by omega) (by omega) (fun c_7 => absurd c_7 (by omega)) (fun c_7 => ?_)
    refine lv_aload_n hx hb dMd_fits_10 rfl (lv_at hl 1 rfl) ?_
    refine va_get (D := D) (ci := 5) (v := .ref yl) (C := R_Md) (T := T_Md) (N := 21) hx hb hts in_Md hown hK hP 0 rfl rfl 18 (by decide) (hts _ gm_543) (fun _ h9 => h9) rfl dMd_fits_11 ?_
    refine lv_iload hx hb dMd_fits_14 (lv_at hl 0 rfl) ?_
    refine lv_iload hx hb dMd_fits_16 (lv_at hl 0 rfl) ?_
    refine rz_ne (tgt := 25) hx hb dMd_fits_18 (by decide) (by omega) (fun c_18 => ?_) (fun c_18 => ?_)
    · skip
      refine lv_lconst (v := 0) hx hb dMd_fits_25 (by decide) ?_
      rw [show (0 : Int64) = (if kq = 0 then 1 else 0) from by rw [if_neg (by omega)]]
      refine rl_st hx hb hK hP hD hS 1 2 rfl rfl (by omega) (by omega) dMd_fits_26 (fun H locs hP hD hS => ?_)
      have hP : va_P D vwCl [(mo, .inr (5, [.int th, .ref xt, .ref xk, .ref xr, .int (nI nt), .int (nI nk), .int (nI nr), .ref xu, .ref xv, .ref xb, .ref xw, .ref xo, .ref xl, .ref xp, .ref yr, .ref ys, .ref yw, .ref yt, .ref yl, .ref yc, .int (nI wd)])), (yl, .inl (k 2, 8, .inr (.inl (vp_updL (oneL fl kq) kq (if kq = 0 then 1 else 0))))), (yc, .inl (k 2, 8, .inr (.inl fc)))] H := hP
      have hD : va_D A [(mo, .inr (5, [.int th, .ref xt, .ref xk, .ref xr, .int (nI nt), .int (nI nk), .int (nI nr), .ref xu, .ref xv, .ref xb, .ref xw, .ref xo, .ref xl, .ref xp, .ref yr, .ref ys, .ref yw, .ref yt, .ref yl, .ref yc, .int (nI wd)])), (yl, .inl (k 2, 8, .inr (.inl (vp_updL (oneL fl kq) kq (if kq = 0 then 1 else 0))))), (yc, .inl (k 2, 8, .inr (.inl fc)))] := hD
      refine ri_inc (lv' := [(7, .int (nI (kq + 1))), (0, .ref mo), (1, .long zh), (3, .long zl), (5, .int (nI pp)), (6, .int (nI 3))]) (k := 0) (d := 1) hx hb dMd_fits_27 hl rfl (by decide) (by decide) rfl (fun ls hl => ?_)
      refine lv_goto (tgt := 3) hx hb dMd_fits_30 (by decide) ?_
      exact ih _ _ _ ⟨hP, hD, hS, lv_sub hl [0, 1, 2, 3, 4, 5] rfl⟩
    · skip
      refine lv_lconst (v := 1) hx hb dMd_fits_21 (by decide) ?_
      refine lv_goto (tgt := 26) hx hb dMd_fits_22 (by decide) ?_
      rw [show (1 : Int64) = (if kq = 0 then 1 else 0) from by rw [if_pos c_18]]
      refine rl_st hx hb hK hP hD hS 1 2 rfl rfl (by omega) (by omega) dMd_fits_26 (fun H locs hP hD hS => ?_)
      have hP : va_P D vwCl [(mo, .inr (5, [.int th, .ref xt, .ref xk, .ref xr, .int (nI nt), .int (nI nk), .int (nI nr), .ref xu, .ref xv, .ref xb, .ref xw, .ref xo, .ref xl, .ref xp, .ref yr, .ref ys, .ref yw, .ref yt, .ref yl, .ref yc, .int (nI wd)])), (yl, .inl (k 2, 8, .inr (.inl (vp_updL (oneL fl kq) kq (if kq = 0 then 1 else 0))))), (yc, .inl (k 2, 8, .inr (.inl fc)))] H := hP
      have hD : va_D A [(mo, .inr (5, [.int th, .ref xt, .ref xk, .ref xr, .int (nI nt), .int (nI nk), .int (nI nr), .ref xu, .ref xv, .ref xb, .ref xw, .ref xo, .ref xl, .ref xp, .ref yr, .ref ys, .ref yw, .ref yt, .ref yl, .ref yc, .int (nI wd)])), (yl, .inl (k 2, 8, .inr (.inl (vp_updL (oneL fl kq) kq (if kq = 0 then 1 else 0))))), (yc, .inl (k 2, 8, .inr (.inl fc)))] := hD
      refine ri_inc (lv' := [(7, .int (nI (kq + 1))), (0, .ref mo), (1, .long zh), (3, .long zl), (5, .int (nI pp)), (6, .int (nI 3))]) (k := 0) (d := 1) hx hb dMd_fits_27 hl rfl (by decide) (by decide) rfl (fun ls hl => ?_)
      refine lv_goto (tgt := 3) hx hb dMd_fits_30 (by decide) ?_
      exact ih _ _ _ ⟨hP, hD, hS, lv_sub hl [0, 1, 2, 3, 4, 5] rfl⟩
  · skip
    refine lv_iload hx hb dMd_fits_3 (lv_at hl 0 rfl) ?_
    refine lv_bipush (v := nI 8) hx hb dMd_fits_5 (by decide) ?_
    refine ri_ge (tgt := 33) hx hb dMd_fits_7 (by decide) (by omega) (by omega) (fun c_7 => ?_) (fun c_7 => absurd c_7 (by omega))
    obtain ⟨hL0, hv0⟩ := oneL_v fl (xVal zh zl)
    refine lv_iconst (v := nI 0) hx hb dMd_fits_33 (by decide) ?_
    refine lv_istore (lv' := [(7, .int (nI 0)), (0, .ref mo), (1, .long zh), (3, .long zl), (5, .int (nI pp)), (6, .int (nI 3))]) hx hb dMd_fits_34 hl (by decide) rfl (fun ls hl => ?_)
    refine lv_iload hx hb dMd_fits_36 (lv_at hl 0 rfl) ?_
    refine lv_iload hx hb dMd_fits_38 (lv_at hl 5 rfl) ?_
    refine ri_ge (tgt := 55) hx hb dMd_fits_40 (by decide) (by omega) (by omega) (fun c_40 => absurd c_40 (by omega)) (fun c_40 => ?_)
    refine lv_aload_n hx hb dMd_fits_43 rfl (lv_at hl 1 rfl) ?_
    refine lv_lload_n hx hb dMd_fits_44 rfl (lv_at hl 2 rfl) ?_
    refine lv_lload_n hx hb dMd_fits_45 rfl (lv_at hl 3 rfl) ?_
    refine rc_v (wr := []) (va_runV (As := [.long zh, .long zl]) (rest := []) ⟨hx, hb, hml, hown, hts⟩ (c_r_times l D k tb H.size mo xt xk xr nt nk nr xu xv xb xw xo xl xp yr ys yw yt yl yc wd th zh zl (oneL fl 8) fc hL0 (xVal_hi hX)) (cwV 2 hts (gV gm_521 gm_522 gm_38 gm_57 gm_523) rfl rfl rfl (by decide +kernel) ⟨Nat.le_of_ble_eq_true rfl, Nat.le_of_ble_eq_true rfl⟩) (cP_V hP hD hK hG hS hA [0, 1, 2] (by decide) rfl (ci := 5) (q0 := 0) rfl rfl) rfl rfl hl.1 rfl (lv_room (Nat.le_of_ble_eq_true rfl)) dMd_fits_46 ⟨Nat.le_of_ble_eq_true rfl, Nat.le_of_ble_eq_true rfl⟩) hS hA hP hD [0, 1, 2] [] rfl rfl (by decide) (by decide) (fun u9 H locs hw hP hD hS => ?_)
    obtain ⟨fl1, fc1⟩ := u9
    have hP : va_P D vwCl [(mo, .inr (5, [.int th, .ref xt, .ref xk, .ref xr, .int (nI nt), .int (nI nk), .int (nI nr), .ref xu, .ref xv, .ref xb, .ref xw, .ref xo, .ref xl, .ref xp, .ref yr, .ref ys, .ref yw, .ref yt, .ref yl, .ref yc, .int (nI wd)])), (yl, .inl (k 2, 8, .inr (.inl fl1))), (yc, .inl (k 2, 8, .inr (.inl fc1)))] H := hP
    have hD : va_D A [(mo, .inr (5, [.int th, .ref xt, .ref xk, .ref xr, .int (nI nt), .int (nI nk), .int (nI nr), .ref xu, .ref xv, .ref xb, .ref xw, .ref xo, .ref xl, .ref xp, .ref yr, .ref ys, .ref yw, .ref yt, .ref yl, .ref yc, .int (nI wd)])), (yl, .inl (k 2, 8, .inr (.inl fl1))), (yc, .inl (k 2, 8, .inr (.inl fc1)))] := hD
    obtain ⟨hL1, hv1⟩ := hw
    have hL1 : L32 fl1 := hL1
    have hv1 : Sg fl1 0 8 = xVal zh zl ^ 1 := Eq.trans hv1 (pw_step hX (by decide) hv0)
    refine ri_inc (lv' := [(7, .int (nI 1)), (0, .ref mo), (1, .long zh), (3, .long zl), (5, .int (nI pp)), (6, .int (nI 3))]) (k := 0) (d := 1) hx hb dMd_fits_49 hl rfl (by decide) (by decide) rfl (fun ls hl => ?_)
    refine lv_goto (tgt := 36) hx hb dMd_fits_52 (by decide) ?_
    refine lv_iload hx hb dMd_fits_36 (lv_at hl 0 rfl) ?_
    refine lv_iload hx hb dMd_fits_38 (lv_at hl 5 rfl) ?_
    refine ri_ge (tgt := 55) hx hb dMd_fits_40 (by decide) (by omega) (by omega) (fun c_40 => absurd c_40 (by omega)) (fun c_40 => ?_)
    refine lv_aload_n hx hb dMd_fits_43 rfl (lv_at hl 1 rfl) ?_
    refine lv_lload_n hx hb dMd_fits_44 rfl (lv_at hl 2 rfl) ?_
    refine lv_lload_n hx hb dMd_fits_45 rfl (lv_at hl 3 rfl) ?_
    refine rc_v (wr := []) (va_runV (As := [.long zh, .long zl]) (rest := []) ⟨hx, hb, hml, hown, hts⟩ (c_r_times l D k tb H.size mo xt xk xr nt nk nr xu xv xb xw xo xl xp yr ys yw yt yl yc wd th zh zl fl1 fc1 hL1 (xVal_hi hX)) (cwV 2 hts (gV gm_521 gm_522 gm_38 gm_57 gm_523) rfl rfl rfl (by decide +kernel) ⟨Nat.le_of_ble_eq_true rfl, Nat.le_of_ble_eq_true rfl⟩) (cP_V hP hD hK hG hS hA [0, 1, 2] (by decide) rfl (ci := 5) (q0 := 0) rfl rfl) rfl rfl hl.1 rfl (lv_room (Nat.le_of_ble_eq_true rfl)) dMd_fits_46 ⟨Nat.le_of_ble_eq_true rfl, Nat.le_of_ble_eq_true rfl⟩) hS hA hP hD [0, 1, 2] [] rfl rfl (by decide) (by decide) (fun u9 H locs hw hP hD hS => ?_)
    obtain ⟨fl2, fc2⟩ := u9
    have hP : va_P D vwCl [(mo, .inr (5, [.int th, .ref xt, .ref xk, .ref xr, .int (nI nt), .int (nI nk), .int (nI nr), .ref xu, .ref xv, .ref xb, .ref xw, .ref xo, .ref xl, .ref xp, .ref yr, .ref ys, .ref yw, .ref yt, .ref yl, .ref yc, .int (nI wd)])), (yl, .inl (k 2, 8, .inr (.inl fl2))), (yc, .inl (k 2, 8, .inr (.inl fc2)))] H := hP
    have hD : va_D A [(mo, .inr (5, [.int th, .ref xt, .ref xk, .ref xr, .int (nI nt), .int (nI nk), .int (nI nr), .ref xu, .ref xv, .ref xb, .ref xw, .ref xo, .ref xl, .ref xp, .ref yr, .ref ys, .ref yw, .ref yt, .ref yl, .ref yc, .int (nI wd)])), (yl, .inl (k 2, 8, .inr (.inl fl2))), (yc, .inl (k 2, 8, .inr (.inl fc2)))] := hD
    obtain ⟨hL2, hv2⟩ := hw
    have hL2 : L32 fl2 := hL2
    have hv2 : Sg fl2 0 8 = xVal zh zl ^ 2 := Eq.trans hv2 (pw_step hX (by decide) hv1)
    refine ri_inc (lv' := [(7, .int (nI 2)), (0, .ref mo), (1, .long zh), (3, .long zl), (5, .int (nI pp)), (6, .int (nI 3))]) (k := 0) (d := 1) hx hb dMd_fits_49 hl rfl (by decide) (by decide) rfl (fun ls hl => ?_)
    refine lv_goto (tgt := 36) hx hb dMd_fits_52 (by decide) ?_
    refine lv_iload hx hb dMd_fits_36 (lv_at hl 0 rfl) ?_
    refine lv_iload hx hb dMd_fits_38 (lv_at hl 5 rfl) ?_
    refine ri_ge (tgt := 55) hx hb dMd_fits_40 (by decide) (by omega) (by omega) (fun c_40 => absurd c_40 (by omega)) (fun c_40 => ?_)
    refine lv_aload_n hx hb dMd_fits_43 rfl (lv_at hl 1 rfl) ?_
    refine lv_lload_n hx hb dMd_fits_44 rfl (lv_at hl 2 rfl) ?_
    refine lv_lload_n hx hb dMd_fits_45 rfl (lv_at hl 3 rfl) ?_
    refine rc_v (wr := []) (va_runV (As := [.long zh, .long zl]) (rest := []) ⟨hx, hb, hml, hown, hts⟩ (c_r_times l D k tb H.size mo xt xk xr nt nk nr xu xv xb xw xo xl xp yr ys yw yt yl yc wd th zh zl fl2 fc2 hL2 (xVal_hi hX)) (cwV 2 hts (gV gm_521 gm_522 gm_38 gm_57 gm_523) rfl rfl rfl (by decide +kernel) ⟨Nat.le_of_ble_eq_true rfl, Nat.le_of_ble_eq_true rfl⟩) (cP_V hP hD hK hG hS hA [0, 1, 2] (by decide) rfl (ci := 5) (q0 := 0) rfl rfl) rfl rfl hl.1 rfl (lv_room (Nat.le_of_ble_eq_true rfl)) dMd_fits_46 ⟨Nat.le_of_ble_eq_true rfl, Nat.le_of_ble_eq_true rfl⟩) hS hA hP hD [0, 1, 2] [] rfl rfl (by decide) (by decide) (fun u9 H locs hw hP hD hS => ?_)
    obtain ⟨fl3, fc3⟩ := u9
    have hP : va_P D vwCl [(mo, .inr (5, [.int th, .ref xt, .ref xk, .ref xr, .int (nI nt), .int (nI nk), .int (nI nr), .ref xu, .ref xv, .ref xb, .ref xw, .ref xo, .ref xl, .ref xp, .ref yr, .ref ys, .ref yw, .ref yt, .ref yl, .ref yc, .int (nI wd)])), (yl, .inl (k 2, 8, .inr (.inl fl3))), (yc, .inl (k 2, 8, .inr (.inl fc3)))] H := hP
    have hD : va_D A [(mo, .inr (5, [.int th, .ref xt, .ref xk, .ref xr, .int (nI nt), .int (nI nk), .int (nI nr), .ref xu, .ref xv, .ref xb, .ref xw, .ref xo, .ref xl, .ref xp, .ref yr, .ref ys, .ref yw, .ref yt, .ref yl, .ref yc, .int (nI wd)])), (yl, .inl (k 2, 8, .inr (.inl fl3))), (yc, .inl (k 2, 8, .inr (.inl fc3)))] := hD
    obtain ⟨hL3, hv3⟩ := hw
    have hL3 : L32 fl3 := hL3
    have hv3 : Sg fl3 0 8 = xVal zh zl ^ 3 := Eq.trans hv3 (pw_step hX (by decide) hv2)
    refine ri_inc (lv' := [(7, .int (nI 3)), (0, .ref mo), (1, .long zh), (3, .long zl), (5, .int (nI pp)), (6, .int (nI 3))]) (k := 0) (d := 1) hx hb dMd_fits_49 hl rfl (by decide) (by decide) rfl (fun ls hl => ?_)
    refine lv_goto (tgt := 36) hx hb dMd_fits_52 (by decide) ?_
    refine lv_iload hx hb dMd_fits_36 (lv_at hl 0 rfl) ?_
    refine lv_iload hx hb dMd_fits_38 (lv_at hl 5 rfl) ?_
    refine ri_ge (tgt := 55) hx hb dMd_fits_40 (by decide) (by omega) (by omega) (fun c_40 => ?_) (fun c_40 => absurd c_40 (by omega))
    have htp : uv (ll (ll 0 32 ||| fl3 7) 32 ||| fl3 6) = xVal zh zl ^ 3 / 2 ^ (32 * 6) := top3 hL3 hv3
    have hbt : uv (ll (ll 0 32 ||| fl3 7) 32 ||| fl3 6) < 2 ^ 63 := tb3 htp (pow_lt3 hX)
    refine lv_lconst (v := 0) hx hb dMd_fits_55 (by decide) ?_
    refine lv_lstore (lv' := [(7, .long 0), (0, .ref mo), (1, .long zh), (3, .long zl), (5, .int (nI pp)), (6, .int (nI 3))]) hx hb dMd_fits_56 hl (by decide) rfl (fun ls hl => ?_)
    refine lv_bipush (v := nI 7) hx hb dMd_fits_58 (by decide) ?_
    refine lv_istore (lv' := [(9, .int (nI 7)), (7, .long 0), (0, .ref mo), (1, .long zh), (3, .long zl), (5, .int (nI pp)), (6, .int (nI 3))]) hx hb dMd_fits_60 hl (by decide) rfl (fun ls hl => ?_)
    refine lv_iload hx hb dMd_fits_62 (lv_at hl 0 rfl) ?_
    refine lv_iconst (v := nI 2) hx hb dMd_fits_64 (by decide) ?_
    refine lv_iload hx hb dMd_fits_65 (lv_at hl 6 rfl) ?_
    refine ri_mul hx hb dMd_fits_67 ?_
    refine ri_lt (tgt := 92) hx hb dMd_fits_68 (by decide) (by omega) (by omega) (fun c_68 => absurd c_68 (by omega)) (fun c_68 => ?_)
    refine lv_lload hx hb dMd_fits_71 (lv_at hl 1 rfl) ?_
    refine lv_bipush (v := 32) hx hb dMd_fits_73 (by decide) ?_
    refine lv_lshl (v := ll 0 32) hx hb dMd_fits_75 rfl ?_
    refine lv_aload_n hx hb dMd_fits_76 rfl (lv_at hl 2 rfl) ?_
    refine va_get (D := D) (ci := 5) (v := .ref yl) (C := R_Md) (T := T_Md) (N := 21) hx hb hts in_Md hown hK hP 0 rfl rfl 18 (by decide) (hts _ gm_543) (fun _ h9 => h9) rfl dMd_fits_77 ?_
    refine lv_iload hx hb dMd_fits_80 (lv_at hl 0 rfl) ?_
    refine rl_ld hx hb hK hP 1 2 rfl rfl (by omega) (by omega) dMd_fits_82 ?_
    refine lv_lor hx hb dMd_fits_83 ?_
    refine lv_lstore (lv' := [(7, .long ((ll 0 32) ||| (fl3 7))), (9, .int (nI 7)), (0, .ref mo), (1, .long zh), (3, .long zl), (5, .int (nI pp)), (6, .int (nI 3))]) hx hb dMd_fits_84 hl (by decide) rfl (fun ls hl => ?_)
    refine ri_dec (lv' := [(9, .int (nI 6)), (7, .long ((ll 0 32) ||| (fl3 7))), (0, .ref mo), (1, .long zh), (3, .long zl), (5, .int (nI pp)), (6, .int (nI 3))]) (k := 1) (a := 6) hx hb dMd_fits_86 hl rfl (by decide) rfl (fun ls hl => ?_)
    refine lv_goto (tgt := 62) hx hb dMd_fits_89 (by decide) ?_
    refine lv_iload hx hb dMd_fits_62 (lv_at hl 0 rfl) ?_
    refine lv_iconst (v := nI 2) hx hb dMd_fits_64 (by decide) ?_
    refine lv_iload hx hb dMd_fits_65 (lv_at hl 6 rfl) ?_
    refine ri_mul hx hb dMd_fits_67 ?_
    refine ri_lt (tgt := 92) hx hb dMd_fits_68 (by decide) (by omega) (by omega) (fun c_68 => absurd c_68 (by omega)) (fun c_68 => ?_)
    refine lv_lload hx hb dMd_fits_71 (lv_at hl 1 rfl) ?_
    refine lv_bipush (v := 32) hx hb dMd_fits_73 (by decide) ?_
    refine lv_lshl (v := ll ((ll 0 32) ||| (fl3 7)) 32) hx hb dMd_fits_75 rfl ?_
    refine lv_aload_n hx hb dMd_fits_76 rfl (lv_at hl 2 rfl) ?_
    refine va_get (D := D) (ci := 5) (v := .ref yl) (C := R_Md) (T := T_Md) (N := 21) hx hb hts in_Md hown hK hP 0 rfl rfl 18 (by decide) (hts _ gm_543) (fun _ h9 => h9) rfl dMd_fits_77 ?_
    refine lv_iload hx hb dMd_fits_80 (lv_at hl 0 rfl) ?_
    refine rl_ld hx hb hK hP 1 2 rfl rfl (by omega) (by omega) dMd_fits_82 ?_
    refine lv_lor hx hb dMd_fits_83 ?_
    refine lv_lstore (lv' := [(7, .long ((ll ((ll 0 32) ||| (fl3 7)) 32) ||| (fl3 6))), (9, .int (nI 6)), (0, .ref mo), (1, .long zh), (3, .long zl), (5, .int (nI pp)), (6, .int (nI 3))]) hx hb dMd_fits_84 hl (by decide) rfl (fun ls hl => ?_)
    refine ri_dec (lv' := [(9, .int (nI 5)), (7, .long ((ll ((ll 0 32) ||| (fl3 7)) 32) ||| (fl3 6))), (0, .ref mo), (1, .long zh), (3, .long zl), (5, .int (nI pp)), (6, .int (nI 3))]) (k := 1) (a := 5) hx hb dMd_fits_86 hl rfl (by decide) rfl (fun ls hl => ?_)
    refine lv_goto (tgt := 62) hx hb dMd_fits_89 (by decide) ?_
    refine lv_iload hx hb dMd_fits_62 (lv_at hl 0 rfl) ?_
    refine lv_iconst (v := nI 2) hx hb dMd_fits_64 (by decide) ?_
    refine lv_iload hx hb dMd_fits_65 (lv_at hl 6 rfl) ?_
    refine ri_mul hx hb dMd_fits_67 ?_
    refine ri_lt (tgt := 92) hx hb dMd_fits_68 (by decide) (by omega) (by omega) (fun c_68 => ?_) (fun c_68 => absurd c_68 (by omega))
    refine lv_lload hx hb dMd_fits_92 (lv_at hl 1 rfl) ?_
    refine lv_iload hx hb dMd_fits_94 (lv_at hl 5 rfl) ?_
    refine lv_i2l (v := (nI pp).toInt64) hx hb dMd_fits_96 rfl ?_
    rw [nI_l (by omega)]
    refine W.lcmp hx hb dMd_fits_97 ?_
    refine lv_if_eq (tgt := 116) hx hb dMd_fits_98 (by decide) (fun c_98 => ?_) (fun c_98 => ?_)
    · skip
      have hte := (lg_cmp_eq _ _).mp c_98
      refine lv_iconst (v := nI 0) hx hb dMd_fits_116 (by decide) ?_
      refine lv_istore (lv' := [(9, .int (nI 0)), (7, .long ((ll ((ll 0 32) ||| (fl3 7)) 32) ||| (fl3 6))), (0, .ref mo), (1, .long zh), (3, .long zl), (5, .int (nI pp)), (6, .int (nI 3))]) hx hb dMd_fits_117 hl (by decide) rfl (fun ls hl => ?_)
      refine lv_iload hx hb dMd_fits_119 (lv_at hl 0 rfl) ?_
      refine lv_iconst (v := nI 2) hx hb dMd_fits_121 (by decide) ?_
      refine lv_iload hx hb dMd_fits_122 (lv_at hl 6 rfl) ?_
      refine ri_mul hx hb dMd_fits_124 ?_
      refine ri_ge (tgt := 148) hx hb dMd_fits_125 (by decide) (by omega) (by omega) (fun c_125 => absurd c_125 (by omega)) (fun c_125 => ?_)
      refine lv_aload_n hx hb dMd_fits_128 rfl (lv_at hl 2 rfl) ?_
      refine va_get (D := D) (ci := 5) (v := .ref yl) (C := R_Md) (T := T_Md) (N := 21) hx hb hts in_Md hown hK hP 0 rfl rfl 18 (by decide) (hts _ gm_543) (fun _ h9 => h9) rfl dMd_fits_129 ?_
      refine lv_iload hx hb dMd_fits_132 (lv_at hl 0 rfl) ?_
      refine rl_ld hx hb hK hP 1 2 rfl rfl (by omega) (by omega) dMd_fits_134 ?_
      refine lv_lconst (v := 0) hx hb dMd_fits_135 (by decide) ?_
      refine W.lcmp hx hb dMd_fits_136 ?_
      refine lv_if_eq (tgt := 142) hx hb dMd_fits_137 (by decide) (fun c_137 => ?_) (fun c_137 => ?_)
      · skip
        have hz0 : fl3 0 = 0 := (lg_cmp_eq _ _).mp c_137
        refine ri_inc (lv' := [(9, .int (nI 1)), (7, .long ((ll ((ll 0 32) ||| (fl3 7)) 32) ||| (fl3 6))), (0, .ref mo), (1, .long zh), (3, .long zl), (5, .int (nI pp)), (6, .int (nI 3))]) (k := 0) (d := 1) hx hb dMd_fits_142 hl rfl (by decide) (by decide) rfl (fun ls hl => ?_)
        refine lv_goto (tgt := 119) hx hb dMd_fits_145 (by decide) ?_
        refine lv_iload hx hb dMd_fits_119 (lv_at hl 0 rfl) ?_
        refine lv_iconst (v := nI 2) hx hb dMd_fits_121 (by decide) ?_
        refine lv_iload hx hb dMd_fits_122 (lv_at hl 6 rfl) ?_
        refine ri_mul hx hb dMd_fits_124 ?_
        refine ri_ge (tgt := 148) hx hb dMd_fits_125 (by decide) (by omega) (by omega) (fun c_125 => absurd c_125 (by omega)) (fun c_125 => ?_)
        refine lv_aload_n hx hb dMd_fits_128 rfl (lv_at hl 2 rfl) ?_
        refine va_get (D := D) (ci := 5) (v := .ref yl) (C := R_Md) (T := T_Md) (N := 21) hx hb hts in_Md hown hK hP 0 rfl rfl 18 (by decide) (hts _ gm_543) (fun _ h9 => h9) rfl dMd_fits_129 ?_
        refine lv_iload hx hb dMd_fits_132 (lv_at hl 0 rfl) ?_
        refine rl_ld hx hb hK hP 1 2 rfl rfl (by omega) (by omega) dMd_fits_134 ?_
        refine lv_lconst (v := 0) hx hb dMd_fits_135 (by decide) ?_
        refine W.lcmp hx hb dMd_fits_136 ?_
        refine lv_if_eq (tgt := 142) hx hb dMd_fits_137 (by decide) (fun c_137 => ?_) (fun c_137 => ?_)
        · skip
          have hz1 : fl3 1 = 0 := (lg_cmp_eq _ _).mp c_137
          refine ri_inc (lv' := [(9, .int (nI 2)), (7, .long ((ll ((ll 0 32) ||| (fl3 7)) 32) ||| (fl3 6))), (0, .ref mo), (1, .long zh), (3, .long zl), (5, .int (nI pp)), (6, .int (nI 3))]) (k := 0) (d := 1) hx hb dMd_fits_142 hl rfl (by decide) (by decide) rfl (fun ls hl => ?_)
          refine lv_goto (tgt := 119) hx hb dMd_fits_145 (by decide) ?_
          refine lv_iload hx hb dMd_fits_119 (lv_at hl 0 rfl) ?_
          refine lv_iconst (v := nI 2) hx hb dMd_fits_121 (by decide) ?_
          refine lv_iload hx hb dMd_fits_122 (lv_at hl 6 rfl) ?_
          refine ri_mul hx hb dMd_fits_124 ?_
          refine ri_ge (tgt := 148) hx hb dMd_fits_125 (by decide) (by omega) (by omega) (fun c_125 => absurd c_125 (by omega)) (fun c_125 => ?_)
          refine lv_aload_n hx hb dMd_fits_128 rfl (lv_at hl 2 rfl) ?_
          refine va_get (D := D) (ci := 5) (v := .ref yl) (C := R_Md) (T := T_Md) (N := 21) hx hb hts in_Md hown hK hP 0 rfl rfl 18 (by decide) (hts _ gm_543) (fun _ h9 => h9) rfl dMd_fits_129 ?_
          refine lv_iload hx hb dMd_fits_132 (lv_at hl 0 rfl) ?_
          refine rl_ld hx hb hK hP 1 2 rfl rfl (by omega) (by omega) dMd_fits_134 ?_
          refine lv_lconst (v := 0) hx hb dMd_fits_135 (by decide) ?_
          refine W.lcmp hx hb dMd_fits_136 ?_
          refine lv_if_eq (tgt := 142) hx hb dMd_fits_137 (by decide) (fun c_137 => ?_) (fun c_137 => ?_)
          · skip
            have hz2 : fl3 2 = 0 := (lg_cmp_eq _ _).mp c_137
            refine ri_inc (lv' := [(9, .int (nI 3)), (7, .long ((ll ((ll 0 32) ||| (fl3 7)) 32) ||| (fl3 6))), (0, .ref mo), (1, .long zh), (3, .long zl), (5, .int (nI pp)), (6, .int (nI 3))]) (k := 0) (d := 1) hx hb dMd_fits_142 hl rfl (by decide) (by decide) rfl (fun ls hl => ?_)
            refine lv_goto (tgt := 119) hx hb dMd_fits_145 (by decide) ?_
            refine lv_iload hx hb dMd_fits_119 (lv_at hl 0 rfl) ?_
            refine lv_iconst (v := nI 2) hx hb dMd_fits_121 (by decide) ?_
            refine lv_iload hx hb dMd_fits_122 (lv_at hl 6 rfl) ?_
            refine ri_mul hx hb dMd_fits_124 ?_
            refine ri_ge (tgt := 148) hx hb dMd_fits_125 (by decide) (by omega) (by omega) (fun c_125 => absurd c_125 (by omega)) (fun c_125 => ?_)
            refine lv_aload_n hx hb dMd_fits_128 rfl (lv_at hl 2 rfl) ?_
            refine va_get (D := D) (ci := 5) (v := .ref yl) (C := R_Md) (T := T_Md) (N := 21) hx hb hts in_Md hown hK hP 0 rfl rfl 18 (by decide) (hts _ gm_543) (fun _ h9 => h9) rfl dMd_fits_129 ?_
            refine lv_iload hx hb dMd_fits_132 (lv_at hl 0 rfl) ?_
            refine rl_ld hx hb hK hP 1 2 rfl rfl (by omega) (by omega) dMd_fits_134 ?_
            refine lv_lconst (v := 0) hx hb dMd_fits_135 (by decide) ?_
            refine W.lcmp hx hb dMd_fits_136 ?_
            refine lv_if_eq (tgt := 142) hx hb dMd_fits_137 (by decide) (fun c_137 => ?_) (fun c_137 => ?_)
            · skip
              have hz3 : fl3 3 = 0 := (lg_cmp_eq _ _).mp c_137
              refine ri_inc (lv' := [(9, .int (nI 4)), (7, .long ((ll ((ll 0 32) ||| (fl3 7)) 32) ||| (fl3 6))), (0, .ref mo), (1, .long zh), (3, .long zl), (5, .int (nI pp)), (6, .int (nI 3))]) (k := 0) (d := 1) hx hb dMd_fits_142 hl rfl (by decide) (by decide) rfl (fun ls hl => ?_)
              refine lv_goto (tgt := 119) hx hb dMd_fits_145 (by decide) ?_
              refine lv_iload hx hb dMd_fits_119 (lv_at hl 0 rfl) ?_
              refine lv_iconst (v := nI 2) hx hb dMd_fits_121 (by decide) ?_
              refine lv_iload hx hb dMd_fits_122 (lv_at hl 6 rfl) ?_
              refine ri_mul hx hb dMd_fits_124 ?_
              refine ri_ge (tgt := 148) hx hb dMd_fits_125 (by decide) (by omega) (by omega) (fun c_125 => absurd c_125 (by omega)) (fun c_125 => ?_)
              refine lv_aload_n hx hb dMd_fits_128 rfl (lv_at hl 2 rfl) ?_
              refine va_get (D := D) (ci := 5) (v := .ref yl) (C := R_Md) (T := T_Md) (N := 21) hx hb hts in_Md hown hK hP 0 rfl rfl 18 (by decide) (hts _ gm_543) (fun _ h9 => h9) rfl dMd_fits_129 ?_
              refine lv_iload hx hb dMd_fits_132 (lv_at hl 0 rfl) ?_
              refine rl_ld hx hb hK hP 1 2 rfl rfl (by omega) (by omega) dMd_fits_134 ?_
              refine lv_lconst (v := 0) hx hb dMd_fits_135 (by decide) ?_
              refine W.lcmp hx hb dMd_fits_136 ?_
              refine lv_if_eq (tgt := 142) hx hb dMd_fits_137 (by decide) (fun c_137 => ?_) (fun c_137 => ?_)
              · skip
                have hz4 : fl3 4 = 0 := (lg_cmp_eq _ _).mp c_137
                refine ri_inc (lv' := [(9, .int (nI 5)), (7, .long ((ll ((ll 0 32) ||| (fl3 7)) 32) ||| (fl3 6))), (0, .ref mo), (1, .long zh), (3, .long zl), (5, .int (nI pp)), (6, .int (nI 3))]) (k := 0) (d := 1) hx hb dMd_fits_142 hl rfl (by decide) (by decide) rfl (fun ls hl => ?_)
                refine lv_goto (tgt := 119) hx hb dMd_fits_145 (by decide) ?_
                refine lv_iload hx hb dMd_fits_119 (lv_at hl 0 rfl) ?_
                refine lv_iconst (v := nI 2) hx hb dMd_fits_121 (by decide) ?_
                refine lv_iload hx hb dMd_fits_122 (lv_at hl 6 rfl) ?_
                refine ri_mul hx hb dMd_fits_124 ?_
                refine ri_ge (tgt := 148) hx hb dMd_fits_125 (by decide) (by omega) (by omega) (fun c_125 => absurd c_125 (by omega)) (fun c_125 => ?_)
                refine lv_aload_n hx hb dMd_fits_128 rfl (lv_at hl 2 rfl) ?_
                refine va_get (D := D) (ci := 5) (v := .ref yl) (C := R_Md) (T := T_Md) (N := 21) hx hb hts in_Md hown hK hP 0 rfl rfl 18 (by decide) (hts _ gm_543) (fun _ h9 => h9) rfl dMd_fits_129 ?_
                refine lv_iload hx hb dMd_fits_132 (lv_at hl 0 rfl) ?_
                refine rl_ld hx hb hK hP 1 2 rfl rfl (by omega) (by omega) dMd_fits_134 ?_
                refine lv_lconst (v := 0) hx hb dMd_fits_135 (by decide) ?_
                refine W.lcmp hx hb dMd_fits_136 ?_
                refine lv_if_eq (tgt := 142) hx hb dMd_fits_137 (by decide) (fun c_137 => ?_) (fun c_137 => ?_)
                · skip
                  have hz5 : fl3 5 = 0 := (lg_cmp_eq _ _).mp c_137
                  refine ri_inc (lv' := [(9, .int (nI 6)), (7, .long ((ll ((ll 0 32) ||| (fl3 7)) 32) ||| (fl3 6))), (0, .ref mo), (1, .long zh), (3, .long zl), (5, .int (nI pp)), (6, .int (nI 3))]) (k := 0) (d := 1) hx hb dMd_fits_142 hl rfl (by decide) (by decide) rfl (fun ls hl => ?_)
                  refine lv_goto (tgt := 119) hx hb dMd_fits_145 (by decide) ?_
                  refine lv_iload hx hb dMd_fits_119 (lv_at hl 0 rfl) ?_
                  refine lv_iconst (v := nI 2) hx hb dMd_fits_121 (by decide) ?_
                  refine lv_iload hx hb dMd_fits_122 (lv_at hl 6 rfl) ?_
                  refine ri_mul hx hb dMd_fits_124 ?_
                  refine ri_ge (tgt := 148) hx hb dMd_fits_125 (by decide) (by omega) (by omega) (fun c_125 => ?_) (fun c_125 => absurd c_125 (by omega))
                  refine lv_iconst (v := nI 1) hx hb dMd_fits_148 (by decide) ?_
                  refine W.widen (k := 0) (n := 0) (Nat.le_refl _) (Nat.le_refl _) ?_
                  exact W.zret (v := nI 1) hx hb hr (by decide +kernel) (fun t ht hW => ⟨⟨nI 1, (fl3, fc3), rfl, fN_yes hL3 (by decide) hv3 htp (by omega) hte (all6 hz0 hz1 hz2 hz3 hz4 hz5), by rw [ht]; exact hP, hD⟩, hS.F ht⟩) hS.2.2 dMd_fits_149
                · skip
                  refine lv_iconst (v := nI 0) hx hb dMd_fits_140 (by decide) ?_
                  refine W.widen (k := 0) (n := 0) (Nat.le_refl _) (Nat.le_refl _) ?_
                  exact W.zret (v := nI 0) hx hb hr (by decide +kernel) (fun t ht hW => ⟨⟨nI 0, (fl3, fc3), rfl, fN_no hL3 (by decide) hv3 htp (by omega) hte (j := 5) (by decide) (fun h9 => c_137 ((lg_cmp_eq _ _).mpr h9)), by rw [ht]; exact hP, hD⟩, hS.F ht⟩) hS.2.2 dMd_fits_141
              · skip
                refine lv_iconst (v := nI 0) hx hb dMd_fits_140 (by decide) ?_
                refine W.widen (k := 0) (n := 0) (Nat.le_refl _) (Nat.le_refl _) ?_
                exact W.zret (v := nI 0) hx hb hr (by decide +kernel) (fun t ht hW => ⟨⟨nI 0, (fl3, fc3), rfl, fN_no hL3 (by decide) hv3 htp (by omega) hte (j := 4) (by decide) (fun h9 => c_137 ((lg_cmp_eq _ _).mpr h9)), by rw [ht]; exact hP, hD⟩, hS.F ht⟩) hS.2.2 dMd_fits_141
            · skip
              refine lv_iconst (v := nI 0) hx hb dMd_fits_140 (by decide) ?_
              refine W.widen (k := 0) (n := 0) (Nat.le_refl _) (Nat.le_refl _) ?_
              exact W.zret (v := nI 0) hx hb hr (by decide +kernel) (fun t ht hW => ⟨⟨nI 0, (fl3, fc3), rfl, fN_no hL3 (by decide) hv3 htp (by omega) hte (j := 3) (by decide) (fun h9 => c_137 ((lg_cmp_eq _ _).mpr h9)), by rw [ht]; exact hP, hD⟩, hS.F ht⟩) hS.2.2 dMd_fits_141
          · skip
            refine lv_iconst (v := nI 0) hx hb dMd_fits_140 (by decide) ?_
            refine W.widen (k := 0) (n := 0) (Nat.le_refl _) (Nat.le_refl _) ?_
            exact W.zret (v := nI 0) hx hb hr (by decide +kernel) (fun t ht hW => ⟨⟨nI 0, (fl3, fc3), rfl, fN_no hL3 (by decide) hv3 htp (by omega) hte (j := 2) (by decide) (fun h9 => c_137 ((lg_cmp_eq _ _).mpr h9)), by rw [ht]; exact hP, hD⟩, hS.F ht⟩) hS.2.2 dMd_fits_141
        · skip
          refine lv_iconst (v := nI 0) hx hb dMd_fits_140 (by decide) ?_
          refine W.widen (k := 0) (n := 0) (Nat.le_refl _) (Nat.le_refl _) ?_
          exact W.zret (v := nI 0) hx hb hr (by decide +kernel) (fun t ht hW => ⟨⟨nI 0, (fl3, fc3), rfl, fN_no hL3 (by decide) hv3 htp (by omega) hte (j := 1) (by decide) (fun h9 => c_137 ((lg_cmp_eq _ _).mpr h9)), by rw [ht]; exact hP, hD⟩, hS.F ht⟩) hS.2.2 dMd_fits_141
      · skip
        refine lv_iconst (v := nI 0) hx hb dMd_fits_140 (by decide) ?_
        refine W.widen (k := 0) (n := 0) (Nat.le_refl _) (Nat.le_refl _) ?_
        exact W.zret (v := nI 0) hx hb hr (by decide +kernel) (fun t ht hW => ⟨⟨nI 0, (fl3, fc3), rfl, fN_no hL3 (by decide) hv3 htp (by omega) hte (j := 0) (by decide) (fun h9 => c_137 ((lg_cmp_eq _ _).mpr h9)), by rw [ht]; exact hP, hD⟩, hS.F ht⟩) hS.2.2 dMd_fits_141
    · skip
      refine lv_lload hx hb dMd_fits_101 (lv_at hl 1 rfl) ?_
      refine lv_iload hx hb dMd_fits_103 (lv_at hl 5 rfl) ?_
      refine lv_i2l (v := (nI pp).toInt64) hx hb dMd_fits_105 rfl ?_
      rw [nI_l (by omega)]
      refine W.lcmp hx hb dMd_fits_106 ?_
      refine lv_if_ge (tgt := 114) hx hb dMd_fits_107 (by decide) (fun c_107 => ?_) (fun c_107 => ?_)
      · skip
        refine lv_iconst (v := nI 0) hx hb dMd_fits_114 (by decide) ?_
        refine W.widen (k := 0) (n := 0) (Nat.le_refl _) (Nat.le_refl _) ?_
        exact W.zret (v := nI 0) hx hb hr (by decide +kernel) (fun t ht hW => ⟨⟨nI 0, (fl3, fc3), rfl, fN_gt (Nat.pow_pos (by decide)) htp hbt (by omega) (fun h9 => absurd ((lg_cmp_lt _ _).mpr h9) (Int32.not_lt.mpr c_107)) (fun h9 => c_98 ((lg_cmp_eq _ _).mpr h9)), by rw [ht]; exact hP, hD⟩, hS.F ht⟩) hS.2.2 dMd_fits_115
      · skip
        refine lv_iconst (v := nI 1) hx hb dMd_fits_110 (by decide) ?_
        refine lv_goto (tgt := 115) hx hb dMd_fits_111 (by decide) ?_
        refine W.widen (k := 0) (n := 0) (Nat.le_refl _) (Nat.le_refl _) ?_
        exact W.zret (v := nI 1) hx hb hr (by decide +kernel) (fun t ht hW => ⟨⟨nI 1, (fl3, fc3), rfl, fN_lt (Nat.pow_pos (by decide)) htp hbt (by omega) ((lg_cmp_lt _ _).mp (Int32.not_le.mp c_107)), by rw [ht]; exact hP, hD⟩, hS.F ht⟩) hS.2.2 dMd_fits_115
set_option maxHeartbeats 600000 in
set_option maxRecDepth 100000 in
theorem c_r_root2 (l : Launch) (D : va_G) (k : Nat → ClassId) (tb : Nat → Nat) (sz : Nat) (mo xt xk xr nt nk nr xu xv xb xw xo xl xp yr ys yw yt yl yc wd : Nat) (th : Int32) (pp : Nat) (fl fc : Nat → Int64) (hp : pp < 512) : Met l yMd_root wMd_root ({ frames := 2, cells := 0, slots := 0, locals := 61 }) (cP D k tb [(mo, .inr (5, [.int th, .ref xt, .ref xk, .ref xr, .int (nI nt), .int (nI nk), .int (nI nr), .ref xu, .ref xv, .ref xb, .ref xw, .ref xo, .ref xl, .ref xp, .ref yr, .ref ys, .ref yw, .ref yt, .ref yl, .ref yc, .int (nI wd)])), (yl, .inl (k 2, 8, .inr (.inl fl))), (yc, .inl (k 2, 8, .inr (.inl fc)))] sz [.ref mo, .int (nI pp), .int (nI 2)]) (va_Ql (fun (r : Int64) (u : (Nat → Int64) × (Nat → Int64)) => r = Int64.ofNat (gN pp 2 67)) (fun (u : (Nat → Int64) × (Nat → Int64)) (t : State) => va_P D vwCl [(mo, .inr (5, [.int th, .ref xt, .ref xk, .ref xr, .int (nI nt), .int (nI nk), .int (nI nr), .ref xu, .ref xv, .ref xb, .ref xw, .ref xo, .ref xl, .ref xp, .ref yr, .ref ys, .ref yw, .ref yt, .ref yl, .ref yc, .int (nI wd)])), (yl, .inl (k 2, 8, .inr (.inl u.1))), (yc, .inl (k 2, 8, .inr (.inl u.2)))] t.heap ∧ va_D (va_A [(mo, .inr (5, [.int th, .ref xt, .ref xk, .ref xr, .int (nI nt), .int (nI nk), .int (nI nr), .ref xu, .ref xv, .ref xb, .ref xw, .ref xo, .ref xl, .ref xp, .ref yr, .ref ys, .ref yw, .ref yt, .ref yl, .ref yc, .int (nI wd)])), (yl, .inl (k 2, 8, .inr (.inl fl))), (yc, .inl (k 2, 8, .inr (.inl fc)))] sz) [(mo, .inr (5, [.int th, .ref xt, .ref xk, .ref xr, .int (nI nt), .int (nI nk), .int (nI nr), .ref xu, .ref xv, .ref xb, .ref xw, .ref xo, .ref xl, .ref xp, .ref yr, .ref ys, .ref yw, .ref yt, .ref yl, .ref yc, .int (nI wd)])), (yl, .inl (k 2, 8, .inr (.inl u.1))), (yc, .inl (k 2, 8, .inr (.inl u.2)))]) (va_A [(mo, .inr (5, [.int th, .ref xt, .ref xk, .ref xr, .int (nI nt), .int (nI nk), .int (nI nr), .ref xu, .ref xv, .ref xb, .ref xw, .ref xo, .ref xl, .ref xp, .ref yr, .ref ys, .ref yw, .ref yt, .ref yl, .ref yc, .int (nI wd)])), (yl, .inl (k 2, 8, .inr (.inl fl))), (yc, .inl (k 2, 8, .inr (.inl fc)))] sz)) (0) (0) (va_A [(mo, .inr (5, [.int th, .ref xt, .ref xk, .ref xr, .int (nI nt), .int (nI nk), .int (nI nr), .ref xu, .ref xv, .ref xb, .ref xw, .ref xo, .ref xl, .ref xp, .ref yr, .ref ys, .ref yw, .ref yt, .ref yl, .ref yc, .int (nI wd)])), (yl, .inl (k 2, 8, .inr (.inl fl))), (yc, .inl (k 2, 8, .inr (.inl fc)))] sz) := by
  refine Met.ofW (cc := cMd_root) (maxL := 12) (ret := (some .long)) (by decide) rfl ?_
  intro p e s m args below meth c s₁ B hml hv
  obtain ⟨rfl, hsz, hP, hK, hD0, hG⟩ := hv
  have hx := B.exec
  have hb := B.bytes
  have hr := B.returns
  have hts : ∀ w ∈ GT, w.before _ s = true := fun w h => atoms_spec (ws := wMd_root) B.pre w (List.mem_cons_of_mem _ h)
  have hown : s.vm.findClass R_Md = some m.cls := findClass_of_methodNamed B.named
  have hlocks := B.notSynchronized
  subst hsz
  have hD := hD0.self (sz := s.heap.size)
  generalize hAe : va_A [(mo, .inr (5, [.int th, .ref xt, .ref xk, .ref xr, .int (nI nt), .int (nI nk), .int (nI nr), .ref xu, .ref xv, .ref xb, .ref xw, .ref xo, .ref xl, .ref xp, .ref yr, .ref ys, .ref yw, .ref yt, .ref yl, .ref yc, .int (nI wd)])), (yl, .inl (k 2, 8, .inr (.inl fl))), (yc, .inl (k 2, 8, .inr (.inl fc)))] s.heap.size = A at hD hG ⊢
  have hA : ∀ q : Nat, s.heap.size ≤ q → A q := fun q h => by rw [← hAe]; exact Or.inr h
  have hl := lv_entry ([.ref mo, .int (nI pp), .int (nI 2)]) (n := 12) (Nat.le_of_ble_eq_true rfl)
  rw [lg_entry_eq]
  generalize (lg_sl ([.ref mo, .int (nI pp), .int (nI 2)]) ++ List.replicate (12 - (lg_sl ([.ref mo, .int (nI pp), .int (nI 2)])).length) Slot.unset).toArray = ls at hl ⊢
  have hl : lv_has ls 12 [(0, .ref mo), (1, .int (nI pp)), (2, .int (nI 2))] := hl
  refine cw_start (A := A) hP (fun H locs hP hS => ?_)
  refine lv_lconst (v := 0) hx hb dMd_root_0 (by decide) ?_
  refine lv_lstore_n (lv' := [(3, .long 0), (0, .ref mo), (1, .int (nI pp)), (2, .int (nI 2))]) hx hb dMd_root_1 rfl hl (by decide) rfl (fun ls hl => ?_)
  refine lv_lconst (v := 0) hx hb dMd_root_2 (by decide) ?_
  refine lv_lstore (lv' := [(5, .long 0), (3, .long 0), (0, .ref mo), (1, .int (nI pp)), (2, .int (nI 2))]) hx hb dMd_root_3 hl (by decide) rfl (fun ls hl => ?_)
  refine lv_bipush (v := nI 66) hx hb dMd_root_5 (by decide) ?_
  rw [show nI 66 = nI (67 - 0) - 1 from by decide]
  refine lv_istore (lv' := [(7, .int (nI (67 - 0) - 1)), (5, .long 0), (3, .long 0), (0, .ref mo), (1, .int (nI pp)), (2, .int (nI 2))]) hx hb dMd_root_7 hl (by decide) rfl (fun ls hl => ?_)
  refine ri_loop (fun q H locs ls => ∃ (hh lo1 : Int64) (fl1 fc1 : Nat → Int64), va_P D vwCl [(mo, .inr (5, [.int th, .ref xt, .ref xk, .ref xr, .int (nI nt), .int (nI nk), .int (nI nr), .ref xu, .ref xv, .ref xb, .ref xw, .ref xo, .ref xl, .ref xp, .ref yr, .ref ys, .ref yw, .ref yt, .ref yl, .ref yc, .int (nI wd)])), (yl, .inl (k 2, 8, .inr (.inl fl1))), (yc, .inl (k 2, 8, .inr (.inl fc1)))] H ∧ va_D A [(mo, .inr (5, [.int th, .ref xt, .ref xk, .ref xr, .int (nI nt), .int (nI nk), .int (nI nr), .ref xu, .ref xv, .ref xb, .ref xw, .ref xo, .ref xl, .ref xp, .ref yr, .ref ys, .ref yw, .ref yt, .ref yl, .ref yc, .int (nI wd)])), (yl, .inl (k 2, 8, .inr (.inl fl1))), (yc, .inl (k 2, 8, .inr (.inl fc1)))] ∧ va_S A s.heap H locs ∧ lv_has ls 12 [(7, .int (nI (67 - q) - 1)), (5, .long lo1), (3, .long hh), (0, .ref mo), (1, .int (nI pp)), (2, .int (nI 2))] ∧ xVal hh lo1 = gN pp 2 q) 67 0 ⟨0, 0, fl, fc, hP, hD, hS, lv_sub hl [0, 1, 2, 3, 4, 5] rfl, (by show xVal 0 0 = 0; decide)⟩ (by omega) (fun q H locs ls lt_q ⟨hh, lo1, fl1, fc1, hP, hD, hS, hl, hinv⟩ ih => ?_) (fun H locs ls ⟨hh, lo1, fl1, fc1, hP, hD, hS, hl, hinv⟩ => ?_)
  · skip
    rw [show nI (67 - q) - 1 = nI (66 - q) from by rw [← nI_dn (show 1 ≤ 67 - q by omega), show 67 - q - 1 = 66 - q by omega]] at hl
    have hd1 := (gN_ok pp 2 q (by omega)).1
    rw [show 67 - q = 66 - q + 1 by omega, ← hinv] at hd1
    refine lv_iload hx hb dMd_root_9 (lv_at hl 0 rfl) ?_
    refine rz_lt (tgt := 83) hx hb dMd_root_11 (by decide) (by omega) ?_
    rcases Nat.lt_or_ge 63 (66 - q) with hbq | hbq
    · skip
      refine lv_iload hx hb dMd_root_14 (lv_at hl 0 rfl) ?_
      refine lv_bipush (v := nI 63) hx hb dMd_root_16 (by decide) ?_
      refine ri_le (tgt := 33) hx hb dMd_root_18 (by decide) (by omega) (by omega) (fun c_18 => absurd c_18 (by omega)) (fun c_18 => ?_)
      refine lv_lload_n hx hb dMd_root_21 rfl (lv_at hl 2 rfl) ?_
      refine lv_lconst (v := 1) hx hb dMd_root_22 (by decide) ?_
      refine lv_iload hx hb dMd_root_23 (lv_at hl 0 rfl) ?_
      refine lv_bipush (v := nI 64) hx hb dMd_root_25 (by decide) ?_
      refine ri_sub hx hb (by omega) dMd_root_27 ?_
      refine lv_lshl (v := ll 1 (nI ((66 - q) - 64))) hx hb dMd_root_28 rfl ?_
      refine lv_lor hx hb dMd_root_29 ?_
      refine lv_goto (tgt := 34) hx hb dMd_root_30 (by decide) ?_
      refine lv_lstore (lv' := [(8, .long (hh ||| (ll 1 (nI ((66 - q) - 64))))), (7, .int (nI (66 - q))), (5, .long lo1), (3, .long hh), (0, .ref mo), (1, .int (nI pp)), (2, .int (nI 2))]) hx hb dMd_root_34 hl (by decide) rfl (fun ls hl => ?_)
      refine lv_iload hx hb dMd_root_36 (lv_at hl 1 rfl) ?_
      refine lv_bipush (v := nI 63) hx hb dMd_root_38 (by decide) ?_
      refine ri_le (tgt := 48) hx hb dMd_root_40 (by decide) (by omega) (by omega) (fun c_40 => absurd c_40 (by omega)) (fun c_40 => ?_)
      refine lv_lload hx hb dMd_root_43 (lv_at hl 2 rfl) ?_
      refine lv_goto (tgt := 55) hx hb dMd_root_45 (by decide) ?_
      refine lv_lstore (lv' := [(10, .long lo1), (8, .long (hh ||| (ll 1 (nI ((66 - q) - 64))))), (7, .int (nI (66 - q))), (5, .long lo1), (3, .long hh), (0, .ref mo), (1, .int (nI pp)), (2, .int (nI 2))]) hx hb dMd_root_55 hl (by decide) rfl (fun ls hl => ?_)
      refine lv_aload_n hx hb dMd_root_57 rfl (lv_at hl 5 rfl) ?_
      refine lv_lload hx hb dMd_root_58 (lv_at hl 1 rfl) ?_
      refine lv_lload hx hb dMd_root_60 (lv_at hl 0 rfl) ?_
      refine lv_iload_n hx hb dMd_root_62 rfl (lv_at hl 6 rfl) ?_
      refine lv_iload_n hx hb dMd_root_63 rfl (lv_at hl 7 rfl) ?_
      have hx1 : xVal (hh ||| (ll 1 (nI ((66 - q) - 64)))) lo1 = gN pp 2 q + 2 ^ (66 - q) := by rw [bitH (by omega) (by omega) hd1, hinv]
      refine rc_i (wr := []) (va_runV (As := [.long (hh ||| (ll 1 (nI ((66 - q) - 64)))), .long lo1, .int (nI pp), .int (nI 2)]) (rest := []) ⟨hx, hb, hml, hown, hts⟩ (c_r_fits2 l D k tb H.size mo xt xk xr nt nk nr xu xv xb xw xo xl xp yr ys yw yt yl yc wd th (hh ||| (ll 1 (nI ((66 - q) - 64)))) lo1 pp fl1 fc1 (by rw [hx1]; exact gN_b lt_q) hp) (cwV 4 hts (gV gm_518 gm_519 gm_37 gm_57 gm_520) rfl rfl rfl (by decide +kernel) ⟨Nat.le_of_ble_eq_true rfl, Nat.le_of_ble_eq_true rfl⟩) (cP_V hP hD hK hG hS hA [0, 1, 2] (by decide) rfl (ci := 5) (q0 := 0) rfl rfl) rfl rfl hl.1 rfl (lv_room (Nat.le_of_ble_eq_true rfl)) dMd_root_64 ⟨Nat.le_of_ble_eq_true rfl, Nat.le_of_ble_eq_true rfl⟩) hS hA hP hD [0, 1, 2] [] rfl rfl (by decide) (by decide) (fun r1 u9 H locs hw hP hD hS => ?_)
      obtain ⟨fl2, fc2⟩ := u9
      have hP : va_P D vwCl [(mo, .inr (5, [.int th, .ref xt, .ref xk, .ref xr, .int (nI nt), .int (nI nk), .int (nI nr), .ref xu, .ref xv, .ref xb, .ref xw, .ref xo, .ref xl, .ref xp, .ref yr, .ref ys, .ref yw, .ref yt, .ref yl, .ref yc, .int (nI wd)])), (yl, .inl (k 2, 8, .inr (.inl fl2))), (yc, .inl (k 2, 8, .inr (.inl fc2)))] H := hP
      have hD : va_D A [(mo, .inr (5, [.int th, .ref xt, .ref xk, .ref xr, .int (nI nt), .int (nI nk), .int (nI nr), .ref xu, .ref xv, .ref xb, .ref xw, .ref xo, .ref xl, .ref xp, .ref yr, .ref ys, .ref yw, .ref yt, .ref yl, .ref yc, .int (nI wd)])), (yl, .inl (k 2, 8, .inr (.inl fl2))), (yc, .inl (k 2, 8, .inr (.inl fc2)))] := hD
      subst hw
      by_cases hc : xVal (hh ||| (ll 1 (nI ((66 - q) - 64)))) lo1 ^ 2 ≤ pp * 2 ^ (32 * 4)
      · skip
        rw [fN_pos hc]
        refine rz_eq (tgt := 77) hx hb dMd_root_67 (by decide) (by omega) (fun c_67 => absurd c_67 (by omega)) (fun c_67 => ?_)
        refine lv_lload hx hb dMd_root_70 (lv_at hl 1 rfl) ?_
        refine lv_lstore_n (lv' := [(3, .long (hh ||| (ll 1 (nI ((66 - q) - 64))))), (10, .long lo1), (8, .long (hh ||| (ll 1 (nI ((66 - q) - 64))))), (7, .int (nI (66 - q))), (5, .long lo1), (0, .ref mo), (1, .int (nI pp)), (2, .int (nI 2))]) hx hb dMd_root_72 rfl hl (by decide) rfl (fun ls hl => ?_)
        refine lv_lload hx hb dMd_root_73 (lv_at hl 1 rfl) ?_
        refine lv_lstore (lv' := [(5, .long lo1), (3, .long (hh ||| (ll 1 (nI ((66 - q) - 64))))), (10, .long lo1), (8, .long (hh ||| (ll 1 (nI ((66 - q) - 64))))), (7, .int (nI (66 - q))), (0, .ref mo), (1, .int (nI pp)), (2, .int (nI 2))]) hx hb dMd_root_75 hl (by decide) rfl (fun ls hl => ?_)
        refine lv_iinc (v := nI (67 - (q + 1)) - 1) (k := 4) (lv' := [(7, .int (nI (67 - (q + 1)) - 1)), (5, .long lo1), (3, .long (hh ||| (ll 1 (nI ((66 - q) - 64))))), (10, .long lo1), (8, .long (hh ||| (ll 1 (nI ((66 - q) - 64))))), (0, .ref mo), (1, .int (nI pp)), (2, .int (nI 2))]) hx hb dMd_root_77 hl rfl (by rw [show 66 - q = 67 - (q + 1) by omega]; exact i_m1 _) (by decide) rfl (fun ls hl => ?_)
        refine lv_goto (tgt := 9) hx hb dMd_root_80 (by decide) ?_
        exact ih _ _ _ ⟨(hh ||| (ll 1 (nI ((66 - q) - 64)))), lo1, fl2, fc2, hP, hD, hS, lv_sub hl [0, 1, 2, 5, 6, 7] rfl, hx1.trans (gN_y (by rw [← hx1]; exact hc))⟩
      · skip
        rw [fN_neg hc]
        refine rz_eq (tgt := 77) hx hb dMd_root_67 (by decide) (by omega) (fun c_67 => ?_) (fun c_67 => absurd c_67 (by omega))
        refine lv_iinc (v := nI (67 - (q + 1)) - 1) (k := 2) (lv' := [(7, .int (nI (67 - (q + 1)) - 1)), (10, .long lo1), (8, .long (hh ||| (ll 1 (nI ((66 - q) - 64))))), (5, .long lo1), (3, .long hh), (0, .ref mo), (1, .int (nI pp)), (2, .int (nI 2))]) hx hb dMd_root_77 hl rfl (by rw [show 66 - q = 67 - (q + 1) by omega]; exact i_m1 _) (by decide) rfl (fun ls hl => ?_)
        refine lv_goto (tgt := 9) hx hb dMd_root_80 (by decide) ?_
        exact ih _ _ _ ⟨hh, lo1, fl2, fc2, hP, hD, hS, lv_sub hl [0, 3, 4, 5, 6, 7] rfl, hinv.trans (gN_n (by rw [← hx1]; exact hc))⟩
    · skip
      refine lv_iload hx hb dMd_root_14 (lv_at hl 0 rfl) ?_
      refine lv_bipush (v := nI 63) hx hb dMd_root_16 (by decide) ?_
      refine ri_le (tgt := 33) hx hb dMd_root_18 (by decide) (by omega) (by omega) (fun c_18 => ?_) (fun c_18 => absurd c_18 (by omega))
      refine lv_lload_n hx hb dMd_root_33 rfl (lv_at hl 2 rfl) ?_
      refine lv_lstore (lv' := [(8, .long hh), (7, .int (nI (66 - q))), (5, .long lo1), (3, .long hh), (0, .ref mo), (1, .int (nI pp)), (2, .int (nI 2))]) hx hb dMd_root_34 hl (by decide) rfl (fun ls hl => ?_)
      refine lv_iload hx hb dMd_root_36 (lv_at hl 1 rfl) ?_
      refine lv_bipush (v := nI 63) hx hb dMd_root_38 (by decide) ?_
      refine ri_le (tgt := 48) hx hb dMd_root_40 (by decide) (by omega) (by omega) (fun c_40 => ?_) (fun c_40 => absurd c_40 (by omega))
      refine lv_lload hx hb dMd_root_48 (lv_at hl 2 rfl) ?_
      refine lv_lconst (v := 1) hx hb dMd_root_50 (by decide) ?_
      refine lv_iload hx hb dMd_root_51 (lv_at hl 1 rfl) ?_
      refine lv_lshl (v := ll 1 (nI (66 - q))) hx hb dMd_root_53 rfl ?_
      refine lv_lor hx hb dMd_root_54 ?_
      refine lv_lstore (lv' := [(10, .long (lo1 ||| (ll 1 (nI (66 - q))))), (8, .long hh), (7, .int (nI (66 - q))), (5, .long lo1), (3, .long hh), (0, .ref mo), (1, .int (nI pp)), (2, .int (nI 2))]) hx hb dMd_root_55 hl (by decide) rfl (fun ls hl => ?_)
      refine lv_aload_n hx hb dMd_root_57 rfl (lv_at hl 5 rfl) ?_
      refine lv_lload hx hb dMd_root_58 (lv_at hl 1 rfl) ?_
      refine lv_lload hx hb dMd_root_60 (lv_at hl 0 rfl) ?_
      refine lv_iload_n hx hb dMd_root_62 rfl (lv_at hl 6 rfl) ?_
      refine lv_iload_n hx hb dMd_root_63 rfl (lv_at hl 7 rfl) ?_
      have hx1 : xVal hh (lo1 ||| (ll 1 (nI (66 - q)))) = gN pp 2 q + 2 ^ (66 - q) := by rw [bitL hbq hd1, hinv]
      refine rc_i (wr := []) (va_runV (As := [.long hh, .long (lo1 ||| (ll 1 (nI (66 - q)))), .int (nI pp), .int (nI 2)]) (rest := []) ⟨hx, hb, hml, hown, hts⟩ (c_r_fits2 l D k tb H.size mo xt xk xr nt nk nr xu xv xb xw xo xl xp yr ys yw yt yl yc wd th hh (lo1 ||| (ll 1 (nI (66 - q)))) pp fl1 fc1 (by rw [hx1]; exact gN_b lt_q) hp) (cwV 4 hts (gV gm_518 gm_519 gm_37 gm_57 gm_520) rfl rfl rfl (by decide +kernel) ⟨Nat.le_of_ble_eq_true rfl, Nat.le_of_ble_eq_true rfl⟩) (cP_V hP hD hK hG hS hA [0, 1, 2] (by decide) rfl (ci := 5) (q0 := 0) rfl rfl) rfl rfl hl.1 rfl (lv_room (Nat.le_of_ble_eq_true rfl)) dMd_root_64 ⟨Nat.le_of_ble_eq_true rfl, Nat.le_of_ble_eq_true rfl⟩) hS hA hP hD [0, 1, 2] [] rfl rfl (by decide) (by decide) (fun r1 u9 H locs hw hP hD hS => ?_)
      obtain ⟨fl2, fc2⟩ := u9
      have hP : va_P D vwCl [(mo, .inr (5, [.int th, .ref xt, .ref xk, .ref xr, .int (nI nt), .int (nI nk), .int (nI nr), .ref xu, .ref xv, .ref xb, .ref xw, .ref xo, .ref xl, .ref xp, .ref yr, .ref ys, .ref yw, .ref yt, .ref yl, .ref yc, .int (nI wd)])), (yl, .inl (k 2, 8, .inr (.inl fl2))), (yc, .inl (k 2, 8, .inr (.inl fc2)))] H := hP
      have hD : va_D A [(mo, .inr (5, [.int th, .ref xt, .ref xk, .ref xr, .int (nI nt), .int (nI nk), .int (nI nr), .ref xu, .ref xv, .ref xb, .ref xw, .ref xo, .ref xl, .ref xp, .ref yr, .ref ys, .ref yw, .ref yt, .ref yl, .ref yc, .int (nI wd)])), (yl, .inl (k 2, 8, .inr (.inl fl2))), (yc, .inl (k 2, 8, .inr (.inl fc2)))] := hD
      subst hw
      by_cases hc : xVal hh (lo1 ||| (ll 1 (nI (66 - q)))) ^ 2 ≤ pp * 2 ^ (32 * 4)
      · skip
        rw [fN_pos hc]
        refine rz_eq (tgt := 77) hx hb dMd_root_67 (by decide) (by omega) (fun c_67 => absurd c_67 (by omega)) (fun c_67 => ?_)
        refine lv_lload hx hb dMd_root_70 (lv_at hl 1 rfl) ?_
        refine lv_lstore_n (lv' := [(3, .long hh), (10, .long (lo1 ||| (ll 1 (nI (66 - q))))), (8, .long hh), (7, .int (nI (66 - q))), (5, .long lo1), (0, .ref mo), (1, .int (nI pp)), (2, .int (nI 2))]) hx hb dMd_root_72 rfl hl (by decide) rfl (fun ls hl => ?_)
        refine lv_lload hx hb dMd_root_73 (lv_at hl 1 rfl) ?_
        refine lv_lstore (lv' := [(5, .long (lo1 ||| (ll 1 (nI (66 - q))))), (3, .long hh), (10, .long (lo1 ||| (ll 1 (nI (66 - q))))), (8, .long hh), (7, .int (nI (66 - q))), (0, .ref mo), (1, .int (nI pp)), (2, .int (nI 2))]) hx hb dMd_root_75 hl (by decide) rfl (fun ls hl => ?_)
        refine lv_iinc (v := nI (67 - (q + 1)) - 1) (k := 4) (lv' := [(7, .int (nI (67 - (q + 1)) - 1)), (5, .long (lo1 ||| (ll 1 (nI (66 - q))))), (3, .long hh), (10, .long (lo1 ||| (ll 1 (nI (66 - q))))), (8, .long hh), (0, .ref mo), (1, .int (nI pp)), (2, .int (nI 2))]) hx hb dMd_root_77 hl rfl (by rw [show 66 - q = 67 - (q + 1) by omega]; exact i_m1 _) (by decide) rfl (fun ls hl => ?_)
        refine lv_goto (tgt := 9) hx hb dMd_root_80 (by decide) ?_
        exact ih _ _ _ ⟨hh, (lo1 ||| (ll 1 (nI (66 - q)))), fl2, fc2, hP, hD, hS, lv_sub hl [0, 1, 2, 5, 6, 7] rfl, hx1.trans (gN_y (by rw [← hx1]; exact hc))⟩
      · skip
        rw [fN_neg hc]
        refine rz_eq (tgt := 77) hx hb dMd_root_67 (by decide) (by omega) (fun c_67 => ?_) (fun c_67 => absurd c_67 (by omega))
        refine lv_iinc (v := nI (67 - (q + 1)) - 1) (k := 2) (lv' := [(7, .int (nI (67 - (q + 1)) - 1)), (10, .long (lo1 ||| (ll 1 (nI (66 - q))))), (8, .long hh), (5, .long lo1), (3, .long hh), (0, .ref mo), (1, .int (nI pp)), (2, .int (nI 2))]) hx hb dMd_root_77 hl rfl (by rw [show 66 - q = 67 - (q + 1) by omega]; exact i_m1 _) (by decide) rfl (fun ls hl => ?_)
        refine lv_goto (tgt := 9) hx hb dMd_root_80 (by decide) ?_
        exact ih _ _ _ ⟨hh, lo1, fl2, fc2, hP, hD, hS, lv_sub hl [0, 3, 4, 5, 6, 7] rfl, hinv.trans (gN_n (by rw [← hx1]; exact hc))⟩
  · skip
    rw [show nI (67 - 67) - 1 = -1 from by decide] at hl
    refine lv_iload hx hb dMd_root_9 (lv_at hl 0 rfl) ?_
    refine lv_if_lt (tgt := 83) hx hb dMd_root_11 (by decide) (fun c_11 => ?_) (fun c_11 => absurd c_11 (by decide))
    refine lv_lload hx hb dMd_root_83 (lv_at hl 1 rfl) ?_
    refine W.widen (k := 0) (n := 0) (Nat.le_refl _) (Nat.le_refl _) ?_
    exact W.lret (v := lo1) hx hb hr (fun t ht hW => ⟨⟨lo1, (fl1, fc1), rfl, xVal_lo hinv, by rw [ht]; exact hP, hD⟩, hS.F ht⟩) hS.2.2 dMd_root_85
set_option maxHeartbeats 600000 in
set_option maxRecDepth 100000 in
theorem c_r_root3 (l : Launch) (D : va_G) (k : Nat → ClassId) (tb : Nat → Nat) (sz : Nat) (mo xt xk xr nt nk nr xu xv xb xw xo xl xp yr ys yw yt yl yc wd : Nat) (th : Int32) (pp : Nat) (fl fc : Nat → Int64) (hp : pp < 512) : Met l yMd_root wMd_root ({ frames := 2, cells := 0, slots := 0, locals := 61 }) (cP D k tb [(mo, .inr (5, [.int th, .ref xt, .ref xk, .ref xr, .int (nI nt), .int (nI nk), .int (nI nr), .ref xu, .ref xv, .ref xb, .ref xw, .ref xo, .ref xl, .ref xp, .ref yr, .ref ys, .ref yw, .ref yt, .ref yl, .ref yc, .int (nI wd)])), (yl, .inl (k 2, 8, .inr (.inl fl))), (yc, .inl (k 2, 8, .inr (.inl fc)))] sz [.ref mo, .int (nI pp), .int (nI 3)]) (va_Ql (fun (r : Int64) (u : (Nat → Int64) × (Nat → Int64)) => r = Int64.ofNat (gN pp 3 67)) (fun (u : (Nat → Int64) × (Nat → Int64)) (t : State) => va_P D vwCl [(mo, .inr (5, [.int th, .ref xt, .ref xk, .ref xr, .int (nI nt), .int (nI nk), .int (nI nr), .ref xu, .ref xv, .ref xb, .ref xw, .ref xo, .ref xl, .ref xp, .ref yr, .ref ys, .ref yw, .ref yt, .ref yl, .ref yc, .int (nI wd)])), (yl, .inl (k 2, 8, .inr (.inl u.1))), (yc, .inl (k 2, 8, .inr (.inl u.2)))] t.heap ∧ va_D (va_A [(mo, .inr (5, [.int th, .ref xt, .ref xk, .ref xr, .int (nI nt), .int (nI nk), .int (nI nr), .ref xu, .ref xv, .ref xb, .ref xw, .ref xo, .ref xl, .ref xp, .ref yr, .ref ys, .ref yw, .ref yt, .ref yl, .ref yc, .int (nI wd)])), (yl, .inl (k 2, 8, .inr (.inl fl))), (yc, .inl (k 2, 8, .inr (.inl fc)))] sz) [(mo, .inr (5, [.int th, .ref xt, .ref xk, .ref xr, .int (nI nt), .int (nI nk), .int (nI nr), .ref xu, .ref xv, .ref xb, .ref xw, .ref xo, .ref xl, .ref xp, .ref yr, .ref ys, .ref yw, .ref yt, .ref yl, .ref yc, .int (nI wd)])), (yl, .inl (k 2, 8, .inr (.inl u.1))), (yc, .inl (k 2, 8, .inr (.inl u.2)))]) (va_A [(mo, .inr (5, [.int th, .ref xt, .ref xk, .ref xr, .int (nI nt), .int (nI nk), .int (nI nr), .ref xu, .ref xv, .ref xb, .ref xw, .ref xo, .ref xl, .ref xp, .ref yr, .ref ys, .ref yw, .ref yt, .ref yl, .ref yc, .int (nI wd)])), (yl, .inl (k 2, 8, .inr (.inl fl))), (yc, .inl (k 2, 8, .inr (.inl fc)))] sz)) (0) (0) (va_A [(mo, .inr (5, [.int th, .ref xt, .ref xk, .ref xr, .int (nI nt), .int (nI nk), .int (nI nr), .ref xu, .ref xv, .ref xb, .ref xw, .ref xo, .ref xl, .ref xp, .ref yr, .ref ys, .ref yw, .ref yt, .ref yl, .ref yc, .int (nI wd)])), (yl, .inl (k 2, 8, .inr (.inl fl))), (yc, .inl (k 2, 8, .inr (.inl fc)))] sz) := by
  refine Met.ofW (cc := cMd_root) (maxL := 12) (ret := (some .long)) (by decide) rfl ?_
  intro p e s m args below meth c s₁ B hml hv
  obtain ⟨rfl, hsz, hP, hK, hD0, hG⟩ := hv
  have hx := B.exec
  have hb := B.bytes
  have hr := B.returns
  have hts : ∀ w ∈ GT, w.before _ s = true := fun w h => atoms_spec (ws := wMd_root) B.pre w (List.mem_cons_of_mem _ h)
  have hown : s.vm.findClass R_Md = some m.cls := findClass_of_methodNamed B.named
  have hlocks := B.notSynchronized
  subst hsz
  have hD := hD0.self (sz := s.heap.size)
  generalize hAe : va_A [(mo, .inr (5, [.int th, .ref xt, .ref xk, .ref xr, .int (nI nt), .int (nI nk), .int (nI nr), .ref xu, .ref xv, .ref xb, .ref xw, .ref xo, .ref xl, .ref xp, .ref yr, .ref ys, .ref yw, .ref yt, .ref yl, .ref yc, .int (nI wd)])), (yl, .inl (k 2, 8, .inr (.inl fl))), (yc, .inl (k 2, 8, .inr (.inl fc)))] s.heap.size = A at hD hG ⊢
  have hA : ∀ q : Nat, s.heap.size ≤ q → A q := fun q h => by rw [← hAe]; exact Or.inr h
  have hl := lv_entry ([.ref mo, .int (nI pp), .int (nI 3)]) (n := 12) (Nat.le_of_ble_eq_true rfl)
  rw [lg_entry_eq]
  generalize (lg_sl ([.ref mo, .int (nI pp), .int (nI 3)]) ++ List.replicate (12 - (lg_sl ([.ref mo, .int (nI pp), .int (nI 3)])).length) Slot.unset).toArray = ls at hl ⊢
  have hl : lv_has ls 12 [(0, .ref mo), (1, .int (nI pp)), (2, .int (nI 3))] := hl
  refine cw_start (A := A) hP (fun H locs hP hS => ?_)
  refine lv_lconst (v := 0) hx hb dMd_root_0 (by decide) ?_
  refine lv_lstore_n (lv' := [(3, .long 0), (0, .ref mo), (1, .int (nI pp)), (2, .int (nI 3))]) hx hb dMd_root_1 rfl hl (by decide) rfl (fun ls hl => ?_)
  refine lv_lconst (v := 0) hx hb dMd_root_2 (by decide) ?_
  refine lv_lstore (lv' := [(5, .long 0), (3, .long 0), (0, .ref mo), (1, .int (nI pp)), (2, .int (nI 3))]) hx hb dMd_root_3 hl (by decide) rfl (fun ls hl => ?_)
  refine lv_bipush (v := nI 66) hx hb dMd_root_5 (by decide) ?_
  rw [show nI 66 = nI (67 - 0) - 1 from by decide]
  refine lv_istore (lv' := [(7, .int (nI (67 - 0) - 1)), (5, .long 0), (3, .long 0), (0, .ref mo), (1, .int (nI pp)), (2, .int (nI 3))]) hx hb dMd_root_7 hl (by decide) rfl (fun ls hl => ?_)
  refine ri_loop (fun q H locs ls => ∃ (hh lo1 : Int64) (fl1 fc1 : Nat → Int64), va_P D vwCl [(mo, .inr (5, [.int th, .ref xt, .ref xk, .ref xr, .int (nI nt), .int (nI nk), .int (nI nr), .ref xu, .ref xv, .ref xb, .ref xw, .ref xo, .ref xl, .ref xp, .ref yr, .ref ys, .ref yw, .ref yt, .ref yl, .ref yc, .int (nI wd)])), (yl, .inl (k 2, 8, .inr (.inl fl1))), (yc, .inl (k 2, 8, .inr (.inl fc1)))] H ∧ va_D A [(mo, .inr (5, [.int th, .ref xt, .ref xk, .ref xr, .int (nI nt), .int (nI nk), .int (nI nr), .ref xu, .ref xv, .ref xb, .ref xw, .ref xo, .ref xl, .ref xp, .ref yr, .ref ys, .ref yw, .ref yt, .ref yl, .ref yc, .int (nI wd)])), (yl, .inl (k 2, 8, .inr (.inl fl1))), (yc, .inl (k 2, 8, .inr (.inl fc1)))] ∧ va_S A s.heap H locs ∧ lv_has ls 12 [(7, .int (nI (67 - q) - 1)), (5, .long lo1), (3, .long hh), (0, .ref mo), (1, .int (nI pp)), (2, .int (nI 3))] ∧ xVal hh lo1 = gN pp 3 q) 67 0 ⟨0, 0, fl, fc, hP, hD, hS, lv_sub hl [0, 1, 2, 3, 4, 5] rfl, (by show xVal 0 0 = 0; decide)⟩ (by omega) (fun q H locs ls lt_q ⟨hh, lo1, fl1, fc1, hP, hD, hS, hl, hinv⟩ ih => ?_) (fun H locs ls ⟨hh, lo1, fl1, fc1, hP, hD, hS, hl, hinv⟩ => ?_)
  · skip
    rw [show nI (67 - q) - 1 = nI (66 - q) from by rw [← nI_dn (show 1 ≤ 67 - q by omega), show 67 - q - 1 = 66 - q by omega]] at hl
    have hd1 := (gN_ok pp 3 q (by omega)).1
    rw [show 67 - q = 66 - q + 1 by omega, ← hinv] at hd1
    refine lv_iload hx hb dMd_root_9 (lv_at hl 0 rfl) ?_
    refine rz_lt (tgt := 83) hx hb dMd_root_11 (by decide) (by omega) ?_
    rcases Nat.lt_or_ge 63 (66 - q) with hbq | hbq
    · skip
      refine lv_iload hx hb dMd_root_14 (lv_at hl 0 rfl) ?_
      refine lv_bipush (v := nI 63) hx hb dMd_root_16 (by decide) ?_
      refine ri_le (tgt := 33) hx hb dMd_root_18 (by decide) (by omega) (by omega) (fun c_18 => absurd c_18 (by omega)) (fun c_18 => ?_)
      refine lv_lload_n hx hb dMd_root_21 rfl (lv_at hl 2 rfl) ?_
      refine lv_lconst (v := 1) hx hb dMd_root_22 (by decide) ?_
      refine lv_iload hx hb dMd_root_23 (lv_at hl 0 rfl) ?_
      refine lv_bipush (v := nI 64) hx hb dMd_root_25 (by decide) ?_
      refine ri_sub hx hb (by omega) dMd_root_27 ?_
      refine lv_lshl (v := ll 1 (nI ((66 - q) - 64))) hx hb dMd_root_28 rfl ?_
      refine lv_lor hx hb dMd_root_29 ?_
      refine lv_goto (tgt := 34) hx hb dMd_root_30 (by decide) ?_
      refine lv_lstore (lv' := [(8, .long (hh ||| (ll 1 (nI ((66 - q) - 64))))), (7, .int (nI (66 - q))), (5, .long lo1), (3, .long hh), (0, .ref mo), (1, .int (nI pp)), (2, .int (nI 3))]) hx hb dMd_root_34 hl (by decide) rfl (fun ls hl => ?_)
      refine lv_iload hx hb dMd_root_36 (lv_at hl 1 rfl) ?_
      refine lv_bipush (v := nI 63) hx hb dMd_root_38 (by decide) ?_
      refine ri_le (tgt := 48) hx hb dMd_root_40 (by decide) (by omega) (by omega) (fun c_40 => absurd c_40 (by omega)) (fun c_40 => ?_)
      refine lv_lload hx hb dMd_root_43 (lv_at hl 2 rfl) ?_
      refine lv_goto (tgt := 55) hx hb dMd_root_45 (by decide) ?_
      refine lv_lstore (lv' := [(10, .long lo1), (8, .long (hh ||| (ll 1 (nI ((66 - q) - 64))))), (7, .int (nI (66 - q))), (5, .long lo1), (3, .long hh), (0, .ref mo), (1, .int (nI pp)), (2, .int (nI 3))]) hx hb dMd_root_55 hl (by decide) rfl (fun ls hl => ?_)
      refine lv_aload_n hx hb dMd_root_57 rfl (lv_at hl 5 rfl) ?_
      refine lv_lload hx hb dMd_root_58 (lv_at hl 1 rfl) ?_
      refine lv_lload hx hb dMd_root_60 (lv_at hl 0 rfl) ?_
      refine lv_iload_n hx hb dMd_root_62 rfl (lv_at hl 6 rfl) ?_
      refine lv_iload_n hx hb dMd_root_63 rfl (lv_at hl 7 rfl) ?_
      have hx1 : xVal (hh ||| (ll 1 (nI ((66 - q) - 64)))) lo1 = gN pp 3 q + 2 ^ (66 - q) := by rw [bitH (by omega) (by omega) hd1, hinv]
      refine rc_i (wr := []) (va_runV (As := [.long (hh ||| (ll 1 (nI ((66 - q) - 64)))), .long lo1, .int (nI pp), .int (nI 3)]) (rest := []) ⟨hx, hb, hml, hown, hts⟩ (c_r_fits3 l D k tb H.size mo xt xk xr nt nk nr xu xv xb xw xo xl xp yr ys yw yt yl yc wd th (hh ||| (ll 1 (nI ((66 - q) - 64)))) lo1 pp fl1 fc1 (by rw [hx1]; exact gN_b lt_q) hp) (cwV 4 hts (gV gm_518 gm_519 gm_37 gm_57 gm_520) rfl rfl rfl (by decide +kernel) ⟨Nat.le_of_ble_eq_true rfl, Nat.le_of_ble_eq_true rfl⟩) (cP_V hP hD hK hG hS hA [0, 1, 2] (by decide) rfl (ci := 5) (q0 := 0) rfl rfl) rfl rfl hl.1 rfl (lv_room (Nat.le_of_ble_eq_true rfl)) dMd_root_64 ⟨Nat.le_of_ble_eq_true rfl, Nat.le_of_ble_eq_true rfl⟩) hS hA hP hD [0, 1, 2] [] rfl rfl (by decide) (by decide) (fun r1 u9 H locs hw hP hD hS => ?_)
      obtain ⟨fl2, fc2⟩ := u9
      have hP : va_P D vwCl [(mo, .inr (5, [.int th, .ref xt, .ref xk, .ref xr, .int (nI nt), .int (nI nk), .int (nI nr), .ref xu, .ref xv, .ref xb, .ref xw, .ref xo, .ref xl, .ref xp, .ref yr, .ref ys, .ref yw, .ref yt, .ref yl, .ref yc, .int (nI wd)])), (yl, .inl (k 2, 8, .inr (.inl fl2))), (yc, .inl (k 2, 8, .inr (.inl fc2)))] H := hP
      have hD : va_D A [(mo, .inr (5, [.int th, .ref xt, .ref xk, .ref xr, .int (nI nt), .int (nI nk), .int (nI nr), .ref xu, .ref xv, .ref xb, .ref xw, .ref xo, .ref xl, .ref xp, .ref yr, .ref ys, .ref yw, .ref yt, .ref yl, .ref yc, .int (nI wd)])), (yl, .inl (k 2, 8, .inr (.inl fl2))), (yc, .inl (k 2, 8, .inr (.inl fc2)))] := hD
      subst hw
      by_cases hc : xVal (hh ||| (ll 1 (nI ((66 - q) - 64)))) lo1 ^ 3 ≤ pp * 2 ^ (32 * 6)
      · skip
        rw [fN_pos hc]
        refine rz_eq (tgt := 77) hx hb dMd_root_67 (by decide) (by omega) (fun c_67 => absurd c_67 (by omega)) (fun c_67 => ?_)
        refine lv_lload hx hb dMd_root_70 (lv_at hl 1 rfl) ?_
        refine lv_lstore_n (lv' := [(3, .long (hh ||| (ll 1 (nI ((66 - q) - 64))))), (10, .long lo1), (8, .long (hh ||| (ll 1 (nI ((66 - q) - 64))))), (7, .int (nI (66 - q))), (5, .long lo1), (0, .ref mo), (1, .int (nI pp)), (2, .int (nI 3))]) hx hb dMd_root_72 rfl hl (by decide) rfl (fun ls hl => ?_)
        refine lv_lload hx hb dMd_root_73 (lv_at hl 1 rfl) ?_
        refine lv_lstore (lv' := [(5, .long lo1), (3, .long (hh ||| (ll 1 (nI ((66 - q) - 64))))), (10, .long lo1), (8, .long (hh ||| (ll 1 (nI ((66 - q) - 64))))), (7, .int (nI (66 - q))), (0, .ref mo), (1, .int (nI pp)), (2, .int (nI 3))]) hx hb dMd_root_75 hl (by decide) rfl (fun ls hl => ?_)
        refine lv_iinc (v := nI (67 - (q + 1)) - 1) (k := 4) (lv' := [(7, .int (nI (67 - (q + 1)) - 1)), (5, .long lo1), (3, .long (hh ||| (ll 1 (nI ((66 - q) - 64))))), (10, .long lo1), (8, .long (hh ||| (ll 1 (nI ((66 - q) - 64))))), (0, .ref mo), (1, .int (nI pp)), (2, .int (nI 3))]) hx hb dMd_root_77 hl rfl (by rw [show 66 - q = 67 - (q + 1) by omega]; exact i_m1 _) (by decide) rfl (fun ls hl => ?_)
        refine lv_goto (tgt := 9) hx hb dMd_root_80 (by decide) ?_
        exact ih _ _ _ ⟨(hh ||| (ll 1 (nI ((66 - q) - 64)))), lo1, fl2, fc2, hP, hD, hS, lv_sub hl [0, 1, 2, 5, 6, 7] rfl, hx1.trans (gN_y (by rw [← hx1]; exact hc))⟩
      · skip
        rw [fN_neg hc]
        refine rz_eq (tgt := 77) hx hb dMd_root_67 (by decide) (by omega) (fun c_67 => ?_) (fun c_67 => absurd c_67 (by omega))
        refine lv_iinc (v := nI (67 - (q + 1)) - 1) (k := 2) (lv' := [(7, .int (nI (67 - (q + 1)) - 1)), (10, .long lo1), (8, .long (hh ||| (ll 1 (nI ((66 - q) - 64))))), (5, .long lo1), (3, .long hh), (0, .ref mo), (1, .int (nI pp)), (2, .int (nI 3))]) hx hb dMd_root_77 hl rfl (by rw [show 66 - q = 67 - (q + 1) by omega]; exact i_m1 _) (by decide) rfl (fun ls hl => ?_)
        refine lv_goto (tgt := 9) hx hb dMd_root_80 (by decide) ?_
        exact ih _ _ _ ⟨hh, lo1, fl2, fc2, hP, hD, hS, lv_sub hl [0, 3, 4, 5, 6, 7] rfl, hinv.trans (gN_n (by rw [← hx1]; exact hc))⟩
    · skip
      refine lv_iload hx hb dMd_root_14 (lv_at hl 0 rfl) ?_
      refine lv_bipush (v := nI 63) hx hb dMd_root_16 (by decide) ?_
      refine ri_le (tgt := 33) hx hb dMd_root_18 (by decide) (by omega) (by omega) (fun c_18 => ?_) (fun c_18 => absurd c_18 (by omega))
      refine lv_lload_n hx hb dMd_root_33 rfl (lv_at hl 2 rfl) ?_
      refine lv_lstore (lv' := [(8, .long hh), (7, .int (nI (66 - q))), (5, .long lo1), (3, .long hh), (0, .ref mo), (1, .int (nI pp)), (2, .int (nI 3))]) hx hb dMd_root_34 hl (by decide) rfl (fun ls hl => ?_)
      refine lv_iload hx hb dMd_root_36 (lv_at hl 1 rfl) ?_
      refine lv_bipush (v := nI 63) hx hb dMd_root_38 (by decide) ?_
      refine ri_le (tgt := 48) hx hb dMd_root_40 (by decide) (by omega) (by omega) (fun c_40 => ?_) (fun c_40 => absurd c_40 (by omega))
      refine lv_lload hx hb dMd_root_48 (lv_at hl 2 rfl) ?_
      refine lv_lconst (v := 1) hx hb dMd_root_50 (by decide) ?_
      refine lv_iload hx hb dMd_root_51 (lv_at hl 1 rfl) ?_
      refine lv_lshl (v := ll 1 (nI (66 - q))) hx hb dMd_root_53 rfl ?_
      refine lv_lor hx hb dMd_root_54 ?_
      refine lv_lstore (lv' := [(10, .long (lo1 ||| (ll 1 (nI (66 - q))))), (8, .long hh), (7, .int (nI (66 - q))), (5, .long lo1), (3, .long hh), (0, .ref mo), (1, .int (nI pp)), (2, .int (nI 3))]) hx hb dMd_root_55 hl (by decide) rfl (fun ls hl => ?_)
      refine lv_aload_n hx hb dMd_root_57 rfl (lv_at hl 5 rfl) ?_
      refine lv_lload hx hb dMd_root_58 (lv_at hl 1 rfl) ?_
      refine lv_lload hx hb dMd_root_60 (lv_at hl 0 rfl) ?_
      refine lv_iload_n hx hb dMd_root_62 rfl (lv_at hl 6 rfl) ?_
      refine lv_iload_n hx hb dMd_root_63 rfl (lv_at hl 7 rfl) ?_
      have hx1 : xVal hh (lo1 ||| (ll 1 (nI (66 - q)))) = gN pp 3 q + 2 ^ (66 - q) := by rw [bitL hbq hd1, hinv]
      refine rc_i (wr := []) (va_runV (As := [.long hh, .long (lo1 ||| (ll 1 (nI (66 - q)))), .int (nI pp), .int (nI 3)]) (rest := []) ⟨hx, hb, hml, hown, hts⟩ (c_r_fits3 l D k tb H.size mo xt xk xr nt nk nr xu xv xb xw xo xl xp yr ys yw yt yl yc wd th hh (lo1 ||| (ll 1 (nI (66 - q)))) pp fl1 fc1 (by rw [hx1]; exact gN_b lt_q) hp) (cwV 4 hts (gV gm_518 gm_519 gm_37 gm_57 gm_520) rfl rfl rfl (by decide +kernel) ⟨Nat.le_of_ble_eq_true rfl, Nat.le_of_ble_eq_true rfl⟩) (cP_V hP hD hK hG hS hA [0, 1, 2] (by decide) rfl (ci := 5) (q0 := 0) rfl rfl) rfl rfl hl.1 rfl (lv_room (Nat.le_of_ble_eq_true rfl)) dMd_root_64 ⟨Nat.le_of_ble_eq_true rfl, Nat.le_of_ble_eq_true rfl⟩) hS hA hP hD [0, 1, 2] [] rfl rfl (by decide) (by decide) (fun r1 u9 H locs hw hP hD hS => ?_)
      obtain ⟨fl2, fc2⟩ := u9
      have hP : va_P D vwCl [(mo, .inr (5, [.int th, .ref xt, .ref xk, .ref xr, .int (nI nt), .int (nI nk), .int (nI nr), .ref xu, .ref xv, .ref xb, .ref xw, .ref xo, .ref xl, .ref xp, .ref yr, .ref ys, .ref yw, .ref yt, .ref yl, .ref yc, .int (nI wd)])), (yl, .inl (k 2, 8, .inr (.inl fl2))), (yc, .inl (k 2, 8, .inr (.inl fc2)))] H := hP
      have hD : va_D A [(mo, .inr (5, [.int th, .ref xt, .ref xk, .ref xr, .int (nI nt), .int (nI nk), .int (nI nr), .ref xu, .ref xv, .ref xb, .ref xw, .ref xo, .ref xl, .ref xp, .ref yr, .ref ys, .ref yw, .ref yt, .ref yl, .ref yc, .int (nI wd)])), (yl, .inl (k 2, 8, .inr (.inl fl2))), (yc, .inl (k 2, 8, .inr (.inl fc2)))] := hD
      subst hw
      by_cases hc : xVal hh (lo1 ||| (ll 1 (nI (66 - q)))) ^ 3 ≤ pp * 2 ^ (32 * 6)
      · skip
        rw [fN_pos hc]
        refine rz_eq (tgt := 77) hx hb dMd_root_67 (by decide) (by omega) (fun c_67 => absurd c_67 (by omega)) (fun c_67 => ?_)
        refine lv_lload hx hb dMd_root_70 (lv_at hl 1 rfl) ?_
        refine lv_lstore_n (lv' := [(3, .long hh), (10, .long (lo1 ||| (ll 1 (nI (66 - q))))), (8, .long hh), (7, .int (nI (66 - q))), (5, .long lo1), (0, .ref mo), (1, .int (nI pp)), (2, .int (nI 3))]) hx hb dMd_root_72 rfl hl (by decide) rfl (fun ls hl => ?_)
        refine lv_lload hx hb dMd_root_73 (lv_at hl 1 rfl) ?_
        refine lv_lstore (lv' := [(5, .long (lo1 ||| (ll 1 (nI (66 - q))))), (3, .long hh), (10, .long (lo1 ||| (ll 1 (nI (66 - q))))), (8, .long hh), (7, .int (nI (66 - q))), (0, .ref mo), (1, .int (nI pp)), (2, .int (nI 3))]) hx hb dMd_root_75 hl (by decide) rfl (fun ls hl => ?_)
        refine lv_iinc (v := nI (67 - (q + 1)) - 1) (k := 4) (lv' := [(7, .int (nI (67 - (q + 1)) - 1)), (5, .long (lo1 ||| (ll 1 (nI (66 - q))))), (3, .long hh), (10, .long (lo1 ||| (ll 1 (nI (66 - q))))), (8, .long hh), (0, .ref mo), (1, .int (nI pp)), (2, .int (nI 3))]) hx hb dMd_root_77 hl rfl (by rw [show 66 - q = 67 - (q + 1) by omega]; exact i_m1 _) (by decide) rfl (fun ls hl => ?_)
        refine lv_goto (tgt := 9) hx hb dMd_root_80 (by decide) ?_
        exact ih _ _ _ ⟨hh, (lo1 ||| (ll 1 (nI (66 - q)))), fl2, fc2, hP, hD, hS, lv_sub hl [0, 1, 2, 5, 6, 7] rfl, hx1.trans (gN_y (by rw [← hx1]; exact hc))⟩
      · skip
        rw [fN_neg hc]
        refine rz_eq (tgt := 77) hx hb dMd_root_67 (by decide) (by omega) (fun c_67 => ?_) (fun c_67 => absurd c_67 (by omega))
        refine lv_iinc (v := nI (67 - (q + 1)) - 1) (k := 2) (lv' := [(7, .int (nI (67 - (q + 1)) - 1)), (10, .long (lo1 ||| (ll 1 (nI (66 - q))))), (8, .long hh), (5, .long lo1), (3, .long hh), (0, .ref mo), (1, .int (nI pp)), (2, .int (nI 3))]) hx hb dMd_root_77 hl rfl (by rw [show 66 - q = 67 - (q + 1) by omega]; exact i_m1 _) (by decide) rfl (fun ls hl => ?_)
        refine lv_goto (tgt := 9) hx hb dMd_root_80 (by decide) ?_
        exact ih _ _ _ ⟨hh, lo1, fl2, fc2, hP, hD, hS, lv_sub hl [0, 3, 4, 5, 6, 7] rfl, hinv.trans (gN_n (by rw [← hx1]; exact hc))⟩
  · skip
    rw [show nI (67 - 67) - 1 = -1 from by decide] at hl
    refine lv_iload hx hb dMd_root_9 (lv_at hl 0 rfl) ?_
    refine lv_if_lt (tgt := 83) hx hb dMd_root_11 (by decide) (fun c_11 => ?_) (fun c_11 => absurd c_11 (by decide))
    refine lv_lload hx hb dMd_root_83 (lv_at hl 1 rfl) ?_
    refine W.widen (k := 0) (n := 0) (Nat.le_refl _) (Nat.le_refl _) ?_
    exact W.lret (v := lo1) hx hb hr (fun t ht hW => ⟨⟨lo1, (fl1, fc1), rfl, xVal_lo hinv, by rw [ht]; exact hP, hD⟩, hS.F ht⟩) hS.2.2 dMd_root_85
set_option maxHeartbeats 600000 in
set_option maxRecDepth 100000 in
theorem c_r_prime (l : Launch) (D : va_G) (k : Nat → ClassId) (tb : Nat → Nat) (sz : Nat) (a b : Nat) (hab : a < b) (hb2 : b < 512) (h1 : ∀ d, 2 ≤ d → d * d ≤ b → ¬ b % d = 0) (h2 : ∀ c, a < c → c < b → ∃ d, 2 ≤ d ∧ d * d ≤ c ∧ c % d = 0) : Met l yMd_prime wMd_prime ({ frames := 0, cells := 0, slots := 0, locals := 0 }) (cP D k tb [] sz [.int (nI a)]) (va_Qi (fun (r : Int32) (u : Unit) => r = nI b) (fun (u : Unit) (t : State) => va_P D vwCl [] t.heap ∧ va_D (va_A [] sz) []) (va_A [] sz)) (0) (0) (va_A [] sz) := by
  refine Met.ofW (cc := cMd_prime) (maxL := 4) (ret := (some .int)) (by decide) rfl ?_
  intro p e s m args below meth c s₁ B hml hv
  obtain ⟨rfl, hsz, hP, hK, hD0, hG⟩ := hv
  have hx := B.exec
  have hb := B.bytes
  have hr := B.returns
  have hts : ∀ w ∈ GT, w.before _ s = true := fun w h => atoms_spec (ws := wMd_prime) B.pre w (List.mem_cons_of_mem _ h)
  have hown : s.vm.findClass R_Md = some m.cls := findClass_of_methodNamed B.named
  have hlocks := B.notSynchronized
  subst hsz
  have hD := hD0.self (sz := s.heap.size)
  generalize hAe : va_A [] s.heap.size = A at hD hG ⊢
  have hA : ∀ q : Nat, s.heap.size ≤ q → A q := fun q h => by rw [← hAe]; exact Or.inr h
  have hl := lv_entry ([.int (nI a)]) (n := 4) (Nat.le_of_ble_eq_true rfl)
  rw [lg_entry_eq]
  generalize (lg_sl ([.int (nI a)]) ++ List.replicate (4 - (lg_sl ([.int (nI a)])).length) Slot.unset).toArray = ls at hl ⊢
  have hl : lv_has ls 4 [(0, .int (nI a))] := hl
  refine cw_start (A := A) hP (fun H locs hP hS => ?_)
  refine lv_iload_n hx hb dMd_prime_0 rfl (lv_at hl 0 rfl) ?_
  refine lv_istore_n (lv' := [(1, .int (nI a)), (0, .int (nI a))]) hx hb dMd_prime_1 rfl hl (by decide) rfl (fun ls hl => ?_)
  refine lv_iconst (v := nI 0) hx hb dMd_prime_2 (by decide) ?_
  refine lv_istore_n (lv' := [(2, .int (nI 0)), (1, .int (nI a)), (0, .int (nI a))]) hx hb dMd_prime_3 rfl hl (by decide) rfl (fun ls hl => ?_)
  refine ri_loop (fun t H locs ls => ∃ (fd : Int32), va_P D vwCl [] H ∧ va_D A [] ∧ va_S A s.heap H locs ∧ lv_has ls 4 [(2, .int fd), (1, .int (nI (a + t))), (0, .int (nI a))] ∧ (t < b - a → fd = 0) ∧ (t = b - a → fd = 1)) (b - a) 0 ⟨nI 0, hP, hD, hS, lv_sub hl [0, 1, 2] rfl, ⟨fun _ => rfl, fun h9 => by omega⟩⟩ (by omega) (fun t H locs ls lt_t ⟨fd, hP, hD, hS, hl, hinv⟩ ih => ?_) (fun H locs ls ⟨fd, hP, hD, hS, hl, hinv⟩ => ?_)
  · skip
    refine lv_iload_n hx hb dMd_prime_4 rfl (lv_at hl 0 rfl) ?_
    refine lv_if_ne (tgt := 39) hx hb dMd_prime_5 (by decide) (fun c_5 => absurd c_5 (fun h9 => h9 (hinv.1 lt_t))) (fun c_5 => ?_)
    refine ri_inc (lv' := [(1, .int (nI (a + t + 1))), (2, .int fd), (0, .int (nI a))]) (k := 1) (d := 1) hx hb dMd_prime_8 hl rfl (by decide) (by decide) rfl (fun ls hl => ?_)
    refine lv_iconst (v := nI 1) hx hb dMd_prime_11 (by decide) ?_
    refine lv_istore_n (lv' := [(2, .int (nI 1)), (1, .int (nI (a + t + 1))), (0, .int (nI a))]) hx hb dMd_prime_12 rfl hl (by decide) rfl (fun ls hl => ?_)
    obtain ⟨Dq, hq1, hq2⟩ := sqE (a + t + 1)
    have hq3 := dq2 hq1 (by omega)
    have hq4 := dq26 hq2 (by omega)
    refine lv_iconst (v := nI 2) hx hb dMd_prime_13 (by decide) ?_
    refine lv_istore_n (lv' := [(3, .int (nI 2)), (2, .int (nI 1)), (1, .int (nI (a + t + 1))), (0, .int (nI a))]) hx hb dMd_prime_14 rfl hl (by decide) rfl (fun ls hl => ?_)
    refine ri_loop (fun y H locs ls => ∃ (fe : Int32), va_P D vwCl [] H ∧ va_D A [] ∧ va_S A s.heap H locs ∧ lv_has ls 4 [(3, .int (nI (2 + y))), (2, .int fe), (1, .int (nI (a + t + 1))), (0, .int (nI a))] ∧ pI (a + t + 1) fe y) (Dq - 2) 0 ⟨nI 1, hP, hD, hS, lv_sub hl [0, 1, 2, 3] rfl, pI_0 _⟩ (by omega) (fun y H locs ls lt_y ⟨fe, hP, hD, hS, hl, hpi⟩ ih => ?_) (fun H locs ls ⟨fe, hP, hD, hS, hl, hpi⟩ => ?_)
    · skip
      refine lv_iload_n hx hb dMd_prime_15 rfl (lv_at hl 0 rfl) ?_
      refine lv_iload_n hx hb dMd_prime_16 rfl (lv_at hl 0 rfl) ?_
      refine ri_mul hx hb dMd_prime_17 ?_
      refine lv_iload_n hx hb dMd_prime_18 rfl (lv_at hl 2 rfl) ?_
      refine ri_gt (tgt := 36) hx hb dMd_prime_19 (by decide) (sqlt (by omega)) (by omega) (fun c_19 => absurd c_19 (Nat.not_lt.mpr (hq2 (2 + y) (by omega)))) (fun c_19 => ?_)
      refine lv_iload_n hx hb dMd_prime_22 rfl (lv_at hl 2 rfl) ?_
      refine lv_iload_n hx hb dMd_prime_23 rfl (lv_at hl 0 rfl) ?_
      refine ri_rem hx hb (by omega) (by omega) (by omega) dMd_prime_24 ?_
      refine rz_ne (tgt := 30) hx hb dMd_prime_25 (by decide) (Nat.lt_of_le_of_lt (Nat.mod_le _ _) (by omega)) (fun c_25 => ?_) (fun c_25 => ?_)
      · skip
        refine ri_inc (lv' := [(3, .int (nI (2 + y + 1))), (2, .int fe), (1, .int (nI (a + t + 1))), (0, .int (nI a))]) (k := 0) (d := 1) hx hb dMd_prime_30 hl rfl (by decide) (by decide) rfl (fun ls hl => ?_)
        refine lv_goto (tgt := 15) hx hb dMd_prime_33 (by decide) ?_
        exact ih _ _ _ ⟨fe, hP, hD, hS, lv_sub hl [0, 1, 2, 3] rfl, pI_n hpi (Nat.ne_of_gt c_25)⟩
      · skip
        refine lv_iconst (v := nI 0) hx hb dMd_prime_28 (by decide) ?_
        refine lv_istore_n (lv' := [(2, .int (nI 0)), (3, .int (nI (2 + y))), (1, .int (nI (a + t + 1))), (0, .int (nI a))]) hx hb dMd_prime_29 rfl hl (by decide) rfl (fun ls hl => ?_)
        refine ri_inc (lv' := [(3, .int (nI (2 + y + 1))), (2, .int (nI 0)), (1, .int (nI (a + t + 1))), (0, .int (nI a))]) (k := 1) (d := 1) hx hb dMd_prime_30 hl rfl (by decide) (by decide) rfl (fun ls hl => ?_)
        refine lv_goto (tgt := 15) hx hb dMd_prime_33 (by decide) ?_
        exact ih _ _ _ ⟨(nI 0), hP, hD, hS, lv_sub hl [0, 1, 2, 3] rfl, pI_y c_25⟩
    · skip
      refine lv_iload_n hx hb dMd_prime_15 rfl (lv_at hl 0 rfl) ?_
      refine lv_iload_n hx hb dMd_prime_16 rfl (lv_at hl 0 rfl) ?_
      refine ri_mul hx hb dMd_prime_17 ?_
      refine lv_iload_n hx hb dMd_prime_18 rfl (lv_at hl 2 rfl) ?_
      refine ri_gt (tgt := 36) hx hb dMd_prime_19 (by decide) (sqlt (by omega)) (by omega) (fun c_19 => ?_) (fun c_19 => absurd c_19 (Nat.not_le.mpr (by rw [show 2 + (Dq - 2) = Dq by omega]; exact hq1)))
      refine lv_goto (tgt := 4) hx hb dMd_prime_36 (by decide) ?_
      exact ih _ _ _ ⟨fe, hP, hD, hS, lv_sub hl [1, 2, 3] rfl, ⟨fun h9 => pE0 hq3 hpi hq1 (h2 (a + t + 1) (by omega) (by omega)), fun h9 => pE1 hq3 hpi hq2 (by rw [show a + t + 1 = b by omega]; exact h1)⟩⟩
  · skip
    refine lv_iload_n hx hb dMd_prime_4 rfl (lv_at hl 0 rfl) ?_
    refine lv_if_ne (tgt := 39) hx hb dMd_prime_5 (by decide) (fun c_5 => ?_) (fun c_5 => absurd c_5 (fun h9 => absurd (h9.symm.trans (hinv.2 rfl)) (by decide)))
    refine lv_iload_n hx hb dMd_prime_39 rfl (lv_at hl 1 rfl) ?_
    refine W.widen (k := 0) (n := 0) (Nat.le_refl _) (Nat.le_refl _) ?_
    exact W.iret (v := nI (a + (b - a))) hx hb hr (fun t ht hW => ⟨⟨nI (a + (b - a)), (), rfl, (by rw [show a + (b - a) = b by omega]), by rw [ht]; exact hP, hD⟩, hS.F ht⟩) hS.2.2 dMd_prime_40
