/-! THE LAW: its state between two calls -/
def lwW (k : Nat → ClassId) (tb : Nat → Nat) (y_bx y_rt y_rs y_ro y_ri y_ra y_ma y_h0 y_h1 y_h2 y_h0st y_h0bk y_h0sc y_h1st y_h1bk y_h1sc y_h2st y_h2bk y_h2sc y_m0 y_m1 y_m2 y_g0 y_m0kb y_m0iq y_m0si y_m0so y_g0st y_g0bk y_g0sc y_g1 y_m1kb y_m1iq y_m1si y_m1so y_g1st y_g1bk y_g1sc y_g2 y_m2kb y_m2iq y_m2si y_m2so y_g2st y_g2bk y_g2sc y_ou y_xt y_xk y_xr y_xu y_xv y_xb y_xw y_xo y_xl y_xp y_yr y_ys y_yw y_yt y_yl y_yc y_mo : Nat) (y_fRt y_fSt : Nat → Int64) (z_bt z_nt z_ct : Nat) (z_ft : Nat → Int8) (z_bs z_ns z_cs : Nat) (z_fs : Nat → Int8) (z_bo z_no z_co : Nat) (z_fo : Nat → Int8) (z_bi z_ni z_ci : Nat) (z_fi : Nat → Int8) (z_S0 : Nat → Int64) (z_b0 : Nat → Int8) (z_f0 : Nat → Int32) (z_l0 : Nat) (z_t0 : Int64) (z_c0 : Int32) (z_S1 : Nat → Int64) (z_b1 : Nat → Int8) (z_f1 : Nat → Int64) (z_l1 : Nat) (z_t1 : Int64) (z_c1 : Int32) (z_S2 : Nat → Int64) (z_b2 : Nat → Int8) (z_f2 : Nat → Int64) (z_l2 : Nat) (z_t2 : Int64) (z_c2 z_kc0 : Int32) (z_K0 z_H0 : Nat → Int8) (z_I0 z_O0 z_Sm0 : Nat → Int64) (z_bm0 : Nat → Int8) (z_gm0 : Nat → Int32) (z_lm0 : Nat) (z_tm0 : Int64) (z_cm0 z_kc1 : Int32) (z_K1 z_H1 : Nat → Int8) (z_I1 z_O1 z_Sm1 : Nat → Int64) (z_bm1 : Nat → Int8) (z_gm1 : Nat → Int64) (z_lm1 : Nat) (z_tm1 : Int64) (z_cm1 z_kc2 : Int32) (z_K2 z_H2 : Nat → Int8) (z_I2 z_O2 z_Sm2 : Nat → Int64) (z_bm2 : Nat → Int8) (z_gm2 : Nat → Int64) (z_lm2 : Nat) (z_tm2 : Int64) (z_cm2 : Int32) (z_fq : Nat → Int64) (z_th : Int32) (z_wd : Nat) (z_fT z_fK z_fR z_fU : Nat → Int8) (z_fV z_fB : Nat → Int32) (z_mW z_mO z_mL z_mP : Nat → Int8) (z_wW z_wT z_wL z_wC : Nat → Int64) (z_u0 z_u1 z_u2 : Nat) : va_W := [(y_bx, .inr (4, [.ref y_rt, .ref y_rs, .ref y_ro, .ref y_ri, .ref y_ra, .ref y_ma])), (y_rt, .inr (2, [.ref z_bt, .int (nI z_nt)])), (z_bt, .inl (k 0, z_ct, .inl (by_ z_ft))), (y_rs, .inr (2, [.ref z_bs, .int (nI z_ns)])), (z_bs, .inl (k 0, z_cs, .inl (by_ z_fs))), (y_ro, .inr (2, [.ref z_bo, .int (nI z_no)])), (z_bo, .inl (k 0, z_co, .inl (by_ z_fo))), (y_ri, .inr (2, [.ref z_bi, .int (nI z_ni)])), (z_bi, .inl (k 0, z_ci, .inl (by_ z_fi))), (y_ra, .inl (k 3, 3, .inr (.inr (.inr (.inr (va_up (va_up (va_up (fun _ => none) 0 (some y_h0)) 1 (some y_h1)) 2 (some y_h2))))))), (y_h0, .inr (1, [.ref y_h0st, .ref y_h0bk, .int (nI 32), .ref (tb 0), .int (nI 4), .int (nI z_l0), .long z_t0, .int z_c0, .ref y_h0sc])), (y_h0st, .inl (k 2, 8, .inr (.inl z_S0))), (y_h0bk, .inl (k 0, 64, .inl (by_ z_b0))), (y_h0sc, .inl (k 1, 64, .inl z_f0)), (y_h1, .inr (3, [.ref y_h1st, .ref y_h1bk, .int (nI 48), .ref (tb 1), .int (nI 8), .int (nI z_l1), .long z_t1, .int z_c1, .ref y_h1sc])), (y_h1st, .inl (k 2, 8, .inr (.inl z_S1))), (y_h1bk, .inl (k 0, 128, .inl (by_ z_b1))), (y_h1sc, .inl (k 2, 80, .inr (.inl z_f1))), (y_h2, .inr (3, [.ref y_h2st, .ref y_h2bk, .int (nI 64), .ref (tb 2), .int (nI 8), .int (nI z_l2), .long z_t2, .int z_c2, .ref y_h2sc])), (y_h2st, .inl (k 2, 8, .inr (.inl z_S2))), (y_h2bk, .inl (k 0, 128, .inl (by_ z_b2))), (y_h2sc, .inl (k 2, 80, .inr (.inl z_f2))), (y_ma, .inl (k 4, 3, .inr (.inr (.inr (.inr (va_up (va_up (va_up (fun _ => none) 0 (some y_m0)) 1 (some y_m1)) 2 (some y_m2))))))), (y_m0, .inr (0, [.ref y_g0, .ref y_m0kb, .ref y_m0iq, .ref y_m0si, .ref y_m0so, .int z_kc0])), (y_m0kb, .inl (k 0, 64, .inl (by_ z_K0))), (y_m0iq, .inl (k 0, 32, .inl (by_ z_H0))), (y_m0si, .inl (k 2, 8, .inr (.inl z_I0))), (y_m0so, .inl (k 2, 8, .inr (.inl z_O0))), (y_g0, .inr (1, [.ref y_g0st, .ref y_g0bk, .int (nI 32), .ref (tb 0), .int (nI 4), .int (nI z_lm0), .long z_tm0, .int z_cm0, .ref y_g0sc])), (y_g0st, .inl (k 2, 8, .inr (.inl z_Sm0))), (y_g0bk, .inl (k 0, 64, .inl (by_ z_bm0))), (y_g0sc, .inl (k 1, 64, .inl z_gm0)), (y_m1, .inr (0, [.ref y_g1, .ref y_m1kb, .ref y_m1iq, .ref y_m1si, .ref y_m1so, .int z_kc1])), (y_m1kb, .inl (k 0, 128, .inl (by_ z_K1))), (y_m1iq, .inl (k 0, 48, .inl (by_ z_H1))), (y_m1si, .inl (k 2, 8, .inr (.inl z_I1))), (y_m1so, .inl (k 2, 8, .inr (.inl z_O1))), (y_g1, .inr (3, [.ref y_g1st, .ref y_g1bk, .int (nI 48), .ref (tb 1), .int (nI 8), .int (nI z_lm1), .long z_tm1, .int z_cm1, .ref y_g1sc])), (y_g1st, .inl (k 2, 8, .inr (.inl z_Sm1))), (y_g1bk, .inl (k 0, 128, .inl (by_ z_bm1))), (y_g1sc, .inl (k 2, 80, .inr (.inl z_gm1))), (y_m2, .inr (0, [.ref y_g2, .ref y_m2kb, .ref y_m2iq, .ref y_m2si, .ref y_m2so, .int z_kc2])), (y_m2kb, .inl (k 0, 128, .inl (by_ z_K2))), (y_m2iq, .inl (k 0, 64, .inl (by_ z_H2))), (y_m2si, .inl (k 2, 8, .inr (.inl z_I2))), (y_m2so, .inl (k 2, 8, .inr (.inl z_O2))), (y_g2, .inr (3, [.ref y_g2st, .ref y_g2bk, .int (nI 64), .ref (tb 2), .int (nI 8), .int (nI z_lm2), .long z_tm2, .int z_cm2, .ref y_g2sc])), (y_g2st, .inl (k 2, 8, .inr (.inl z_Sm2))), (y_g2bk, .inl (k 0, 128, .inl (by_ z_bm2))), (y_g2sc, .inl (k 2, 80, .inr (.inl z_gm2))), (y_ou, .inl (k 2, 1, .inr (.inl z_fq))), (y_mo, .inr (5, [.int z_th, .ref y_xt, .ref y_xk, .ref y_xr, .int (nI z_nt), .int (nI z_ns), .int (nI z_no), .ref y_xu, .ref y_xv, .ref y_xb, .ref y_xw, .ref y_xo, .ref y_xl, .ref y_xp, .ref y_yr, .ref y_ys, .ref y_yw, .ref y_yt, .ref y_yl, .ref y_yc, .int (nI z_wd)])), (y_xt, .inl (k 0, 65536, .inl (by_ z_fT))), (y_xk, .inl (k 0, 65536, .inl (by_ z_fK))), (y_xr, .inl (k 0, 16384, .inl (by_ z_fR))), (y_xu, .inl (k 0, 245760, .inl (by_ z_fU))), (y_xv, .inl (k 1, 3, .inl z_fV)), (y_xb, .inl (k 1, 3, .inl z_fB)), (y_xw, .inl (k 0, 65800, .inl (by_ z_mW))), (y_xo, .inl (k 0, 64, .inl (by_ z_mO))), (y_xl, .inl (k 0, 64, .inl (by_ z_mL))), (y_xp, .inl (k 0, 128, .inl (by_ z_mP))), (y_yr, .inl (k 2, 80, .inr (.inl y_fRt))), (y_ys, .inl (k 2, 24, .inr (.inl y_fSt))), (y_yw, .inl (k 2, 80, .inr (.inl z_wW))), (y_yt, .inl (k 2, 8, .inr (.inl z_wT))), (y_yl, .inl (k 2, 8, .inr (.inl z_wL))), (y_yc, .inl (k 2, 8, .inr (.inl z_wC)))]
/-- one kind's run: the object that hashes beside the reference's own text; its count of blocks -/
def KI (B : Nat) (cmp : Cmp) (kd : Nat) (fU : Nat → Int8) (fV fB : Nat → Int32) (u : Nat) (S : ShS) (t : Int64) (cm : Int32) : Prop := (∃ c0, Taken B cmp (fun j => fU (81920 * kd + j)) (iT kd) c0 u S) ∧ t = lN u ∧ fV kd = nI u ∧ fB kd = S.2.2.2 + cm
section KIs
variable {B : Nat} {cmp : Cmp} {kd : Nat} {fU fT ft : Nat → Int8} {fV fB fB' : Nat → Int32} {u nt : Nat} {S S' : ShS} {t : Int64} {cm : Int32}
theorem KI.bq {c : Nat} (h : KI B cmp kd fU fV fB u S t cm) (q : bQ fB' fB kd c) : KI B cmp kd fU fV fB' u S t (cm + nI c) := by
  obtain ⟨h1, h2, h3, h4⟩ := h
  exact ⟨h1, h2, h3, by rw [q.1, h4, Int32.add_assoc]⟩
theorem KI.bo {k2 c : Nat} (h : KI B cmp kd fU fV fB u S t cm) (q : bQ fB' fB k2 c) (hk : kd ≠ k2) : KI B cmp kd fU fV fB' u S t cm := by
  obtain ⟨h1, h2, h3, h4⟩ := h
  exact ⟨h1, h2, h3, by rw [q.2 kd hk]; exact h4⟩
theorem KI.restart {b : Nat → Int8} {c : Int32} {l0 : Nat} {S0 : Nat → Int64} {b0 : Nat → Int8} (h : KI B cmp kd fU fV fB u (S0, b0, l0, c) t cm) : KI B cmp kd fU (upd fV kd (nI 0)) fB 0 (iT kd, b, 0, c) 0 cm := by
  obtain ⟨h1, h2, h3, h4⟩ := h
  exact ⟨⟨c, Taken.zero⟩, rfl, pk_us, h4⟩
theorem KI.vo {k2 : Nat} {x : Int32} (h : KI B cmp kd fU fV fB u S t cm) (hk : kd ≠ k2) : KI B cmp kd fU (upd fV k2 x) fB u S t cm := by
  obtain ⟨h1, h2, h3, h4⟩ := h
  exact ⟨h1, h2, by rw [pk_un hk]; exact h3, h4⟩
theorem KI.more (hB : 0 < B) (hc : CmpB B cmp) (h : KI B cmp kd fU fV fB u S t cm) (hS : S' = abN B cmp (fun i => ft (0 + i)) S nt) (hT : ∀ j, j < nt → fT j = ft j) (hn : nt < 2 ^ 31) : KI B cmp kd (rcq fT fU (81920 * kd + u) nt) (upd fV kd (nI (u + nt))) (upd fB kd (fB kd + nI ((u + nt) / B - u / B))) (u + nt) S' (t + (nI nt).toInt64) cm := by
  obtain ⟨⟨c0, h1⟩, h2, h3, h4⟩ := h
  have h5 : Taken B cmp (fun j => rcq fT fU (81920 * kd + u) nt (81920 * kd + j)) (iT kd) c0 u S := Taken.congr hB hc h1 (fun j hj => (rcq_out (Or.inl (by omega))).symm)
  have h6 := Taken.more (g := fun i => ft (0 + i)) hB hc h5 nt (fun i hi => by
    show rcq fT fU (81920 * kd + u) nt (81920 * kd + (u + i)) = ft (0 + i)
    rw [show 81920 * kd + (u + i) = 81920 * kd + u + i by omega, rcq_in hi, hT i hi, Nat.zero_add])
  rw [← hS] at h6
  have e1 : S.2.2.2 = c0 + nI (u / B) := h1.2.2.2
  have e2 : S'.2.2.2 = c0 + nI ((u + nt) / B) := h6.2.2.2
  refine ⟨⟨c0, h6⟩, by rw [h2, totN hn], pk_us, ?_⟩
  rw [pk_us, h4, e1, e2, Int32.add_assoc, Int32.add_assoc, Int32.add_comm cm, ← Int32.add_assoc (nI (u / B)), nI_add, show u / B + ((u + nt) / B - u / B) = (u + nt) / B from by have := Nat.div_le_div_right (c := B) (show u ≤ u + nt by omega); omega, Int32.add_assoc]
theorem KI.mo {k2 u2 : Nat} {x y : Int32} (hB : 0 < B) (hc : CmpB B cmp) (h : KI B cmp kd fU fV fB u S t cm) (hk : kd ≠ k2) (h1 : u < 20000) (h2 : u2 + nt < 20000) : KI B cmp kd (rcq fT fU (81920 * k2 + u2) nt) (upd fV k2 x) (upd fB k2 y) u S t cm := by
  obtain ⟨⟨c0, g1⟩, g2, g3, g4⟩ := h
  refine ⟨⟨c0, Taken.congr hB hc g1 (fun j hj => (rcq_out ?_).symm)⟩, g2, by rw [pk_un hk]; exact g3, by rw [pk_un hk]; exact g4⟩
  omega
theorem KI.fl (hB : 0 < B) {S0 : Nat → Int64} {b0 : Nat → Int8} {l0 : Nat} {c : Int32} (h : KI B cmp kd fU fV fB u (S0, b0, l0, c) t cm) : l0 < B := by
  obtain ⟨⟨c0, h1⟩, -⟩ := h
  exact Taken.fl hB h1
end KIs
def LI (z_nt z_ns z_no z_ni z_ct z_cs z_co z_ci z_u0 z_u1 z_u2 : Nat) (z_ft z_fs z_fo z_fT z_fK z_fR z_fU : Nat → Int8) (z_fV z_fB : Nat → Int32) (z_S0 : Nat → Int64) (z_b0 : Nat → Int8) (z_l0 : Nat) (z_c0 : Int32) (z_t0 : Int64) (z_cm0 : Int32) (z_S1 : Nat → Int64) (z_b1 : Nat → Int8) (z_l1 : Nat) (z_c1 : Int32) (z_t1 : Int64) (z_cm1 : Int32) (z_S2 : Nat → Int64) (z_b2 : Nat → Int8) (z_l2 : Nat) (z_c2 : Int32) (z_t2 : Int64) (z_cm2 : Int32) (i : Nat) : Prop := (0 < z_ct ∧ z_ct ≤ 45000 ∧ z_nt ≤ z_ct ∧ 0 < z_cs ∧ z_cs ≤ 45000 ∧ z_ns ≤ z_cs ∧ 0 < z_co ∧ z_co ≤ 45000 ∧ z_no ≤ z_co ∧ 0 < z_ci ∧ z_ci ≤ 45000 ∧ z_ni ≤ z_ci ∧ z_ns ≤ 16320 ∧ z_no ≤ 16320 ∧ z_nt + z_u0 + z_u1 + z_u2 ≤ 4 * i ∧ i ≤ 3072) ∧ (∀ j, j < z_nt → z_fT j = z_ft j) ∧ (∀ j, j < z_ns → z_fK j = z_fs j) ∧ (∀ j, j < z_no → z_fR j = z_fo j) ∧ KI 64 cmpN 0 z_fU z_fV z_fB z_u0 (z_S0, z_b0, z_l0, z_c0) z_t0 z_cm0 ∧ KI 128 cmpW 1 z_fU z_fV z_fB z_u1 (z_S1, z_b1, z_l1, z_c1) z_t1 z_cm1 ∧ KI 128 cmpW 2 z_fU z_fV z_fB z_u2 (z_S2, z_b2, z_l2, z_c2) z_t2 z_cm2
theorem rFd_eq (p0 p1 p2 p3 p4 : Int32) (ft : Nat → Int8) (nt : Nat) : ∀ n j, rFd p0 p1 p2 p3 p4 ft nt n j = if nt ≤ j ∧ j < nt + n then (rW p0 p1 p2 p3 p4 (j - nt) >>> (nI (8 * (3 - (j - nt) % 4)) &&& 31)).toInt8 else ft j
  | 0, j => by rw [if_neg (by omega)]; rfl
  | n + 1, j => by
    show va_up _ (nt + n) _ j = _
    by_cases e : j = nt + n
    · rw [e, va_up_self, if_pos (by omega), Nat.add_sub_cancel_left]
    · rw [va_up_ne _ _ e, rFd_eq p0 p1 p2 p3 p4 ft nt n j]
      by_cases q : nt ≤ j ∧ j < nt + n
      · rw [if_pos q, if_pos (by omega)]
      · rw [if_neg q, if_neg (by omega)]
theorem rFd_fd (p0 p1 p2 p3 p4 : Int32) {i : Nat} (hi : i < 20) : (rW p0 p1 p2 p3 p4 i >>> (nI (8 * (3 - i % 4)) &&& 31)).toInt8 = fdF p0 p1 p2 p3 p4 i := by
  rw [rs_lo _ (by omega)]
  have e : i % 4 = 0 ∨ i % 4 = 1 ∨ i % 4 = 2 ∨ i % 4 = 3 := by omega
  have z : ∀ x : Int32, iu x (nI 0) = x := fun x => by
    apply Int32.toBitVec_inj.mp
    rw [iu_bv x (by decide)]; rfl
  unfold fdF
  rcases e with e | e | e | e
  · rw [e]; rfl
  · rw [e]; rfl
  · rw [e]; rfl
  · rw [e]; show (iu _ (nI 0)).toInt8 = _; rw [z]; rfl
theorem kbF_congr {B wb : Nat} {cmp : Cmp} {iv : Nat → Int64} {nh : Nat} {f g : Nat → Int8} {n : Nat} (h : ∀ j, j < n → f j = g j) : kbF B wb cmp iv nh f n = kbF B wb cmp iv nh g n := by
  unfold kbF
  split
  · rw [hF_congr h]
  · funext i
    by_cases q : i < n
    · rw [if_pos q, if_pos q, h i q]
    · rw [if_neg q, if_neg q]
theorem lbF_congr {n kk nt : Nat} {f g : Nat → Int8} (hk : kk ≤ nt) (h : ∀ j, j < nt → f j = g j) : ∀ i, i < 10 + nt → lbF n kk nt f i = lbF n kk nt g i := fun i hi => by
  unfold lbF
  by_cases a0 : i = 0
  · rw [if_pos a0, if_pos a0]
  rw [if_neg a0, if_neg a0]
  by_cases a1 : i = 1
  · rw [if_pos a1, if_pos a1]
  rw [if_neg a1, if_neg a1]
  by_cases a2 : i = 2
  · rw [if_pos a2, if_pos a2]
  rw [if_neg a2, if_neg a2]
  by_cases a3 : i < 9
  · rw [if_pos a3, if_pos a3]
  rw [if_neg a3, if_neg a3]
  by_cases a4 : i < 9 + kk
  · rw [if_pos a4, if_pos a4]
    exact h _ (by omega)
  rw [if_neg a4, if_neg a4]
  by_cases a5 : i = 9 + kk
  · rw [if_pos a5, if_pos a5]
  rw [if_neg a5, if_neg a5]
  exact h _ (by omega)
theorem eT_feed {p0 p1 p2 p3 p4 : Int32} {fT ft f' : Nat → Int8} {nt : Nat} (h : ∀ j, j < nt → fT j = ft j) (hf : (∀ j, j < nt → f' j = ft j) ∧ ∀ i, i < 20 → f' (nt + i) = fdF p0 p1 p2 p3 p4 i) : ∀ j, j < nt + 20 → rFd p0 p1 p2 p3 p4 fT nt 20 j = f' j := fun j hj => by
  rw [rFd_eq]
  by_cases q : nt ≤ j
  · rw [if_pos (by omega), rFd_fd _ _ _ _ _ (by omega), ← hf.2 (j - nt) (by omega), show nt + (j - nt) = j by omega]
  · rw [if_neg (by omega), h j (by omega), hf.1 j (by omega)]
theorem hm_same {B wb : Nat} {cmp : Cmp} {iv : Nat → Int64} {nh ns nt : Nat} {fK fs fT ft : Nat → Int8} (hK : ∀ j, j < ns → fK j = fs j) (hT : ∀ j, j < nt → fT j = ft j) : hmS B wb cmp iv nh (kbF B wb cmp iv nh fK ns) fT nt = hmS B wb cmp iv nh (kbF B wb cmp iv nh fs ns) ft nt := by rw [kbF_congr hK, hmS_congr hT]
theorem ek_same {B wb : Nat} {cmp : Cmp} {iv : Nat → Int64} {nh ns nt : Nat} {fK fs fT ft : Nat → Int8} (hK : ∀ j, j < ns → fK j = fs j) (hT : ∀ j, j < nt → fT j = ft j) : ekS B wb cmp iv nh (kbF B wb cmp iv nh fK ns) fT nt = ekS B wb cmp iv nh (kbF B wb cmp iv nh fs ns) ft nt := by rw [kbF_congr hK, ekS_congr hT]
theorem ex_same {nh n sp wb : Nat} {gR go : Nat → Int8} {E E' : Nat → Nat → Int64} (hn : 0 < nh) (hB : ∀ q z, z < nh → nh * q + z < n → gR (nh * q + z) = hBy (E q) wb z) (hA : ∀ q, q < sp → ∀ z, z < nh → go (q * nh + z) = hBy (E' q) wb z) (hE : E = E') (hs : n ≤ sp * nh) : ∀ j, j < n → gR j = go j := fun j hj => by
  have e := Nat.div_add_mod j nh
  have l := Nat.mod_lt j hn
  have q : j / nh < sp := by rw [Nat.div_lt_iff_lt_mul hn]; omega
  have a := hB (j / nh) (j % nh) l (by omega)
  have b := hA (j / nh) q (j % nh) l
  rw [e] at a
  rw [Nat.mul_comm, e] at b
  rw [a, b, hE]
theorem kd_cases (x : Int32) : x = nI 0 ∨ x = nI 1 ∨ x = nI 2 ∨ (¬ x < 0 → x < nI 3 → False) := by
  by_cases h1 : x < 0
  · exact Or.inr (Or.inr (Or.inr (fun h => absurd h1 h)))
  by_cases h2 : x < nI 3
  · have a : 0 ≤ x.toInt := by have := Int32.not_lt.mp h1; rw [Int32.le_iff_toInt_le] at this; exact this
    have b : x.toInt < 3 := by rw [Int32.lt_iff_toInt_lt] at h2; exact h2
    have c : x.toInt = 0 ∨ x.toInt = 1 ∨ x.toInt = 2 := by omega
    rcases c with c | c | c
    · exact Or.inl (Int32.toInt_inj.mp c)
    · exact Or.inr (Or.inl (Int32.toInt_inj.mp c))
    · exact Or.inr (Or.inr (Or.inl (Int32.toInt_inj.mp c)))
  · exact Or.inr (Or.inr (Or.inr (fun _ h => absurd h h2)))
theorem nn_of {x : Int32} (h : 0 ≤ x.toInt) : ∃ n, n < 2 ^ 31 ∧ x = nI n := by
  refine ⟨x.toInt.toNat, ?_, ?_⟩
  · have := Int32.toInt_lt x; omega
  · apply Int32.toInt_inj.mp
    rw [nI_toInt (by have := Int32.toInt_lt x; omega)]; omega
/-- a number in a range, or not -/
theorem le_cases (x : Int32) (a b : Nat) (ha : a < 2 ^ 31) (hb : b < 2 ^ 31) : (∃ n, a ≤ n ∧ n ≤ b ∧ x = nI n) ∨ (¬ x < nI a → x ≤ nI b → False) := by
  by_cases h1 : x < nI a
  · exact Or.inr (fun h => absurd h1 h)
  by_cases h2 : x ≤ nI b
  · have q : (a : Int) ≤ x.toInt := by have := Int32.not_lt.mp h1; rw [Int32.le_iff_toInt_le, nI_toInt ha] at this; exact this
    obtain ⟨n, hn, rfl⟩ := nn_of (x := x) (by omega)
    rw [nI_toInt hn] at q
    exact Or.inl ⟨n, by omega, (nI_leI hn hb).mp h2, rfl⟩
  · exact Or.inr (fun _ h => absurd h h2)
theorem lt_cases (x : Int32) (b : Nat) (hb : b < 2 ^ 31) : (∃ n, n < b ∧ x = nI n) ∨ (¬ x < 0 → x < nI b → False) := by
  by_cases h1 : x < 0
  · exact Or.inr (fun h => absurd h1 h)
  by_cases h2 : x < nI b
  · have q : 0 ≤ x.toInt := by have := Int32.not_lt.mp h1; rw [Int32.le_iff_toInt_le] at this; exact this
    obtain ⟨n, hn, rfl⟩ := nn_of q
    exact Or.inl ⟨n, (nI_ltI hn hb).mp h2, rfl⟩
  · exact Or.inr (fun _ h => absurd h h2)
theorem lab_cases (x : Int32) (nt : Nat) (hn : nt < 20000) : (∃ kk, 1 ≤ kk ∧ kk ≤ 249 ∧ kk ≤ nt ∧ nt - kk ≤ 255 ∧ x = nI kk) ∨ (¬ x < nI 1 → ¬ nI 249 < x → ¬ nI nt < x → nI nt - x ≤ nI 255 → False) := by
  rcases le_cases x 1 249 (by decide) (by decide) with ⟨kk, h1, h2, rfl⟩ | h
  · by_cases h3 : kk ≤ nt
    · by_cases h4 : nt - kk ≤ 255
      · exact Or.inl ⟨kk, h1, h2, h3, h4, rfl⟩
      · refine Or.inr (fun _ _ _ q => h4 ?_)
        rw [pk_sub h3] at q
        exact (nI_leI (by omega) (by decide)).mp q
    · exact Or.inr (fun _ _ q _ => q ((nI_ltI (by omega) (by omega)).mpr (by omega)))
  · exact Or.inr (fun a b _ _ => h a (Int32.not_lt.mp b))
theorem cnt_cases (x : Int32) : x = nI 0 ∨ x = nI 1 ∨ x = nI 2 ∨ x = nI 3 ∨ x = nI 4 ∨ x = nI 5 ∨ (x.toInt < 0 ∨ 5 < x.toInt) := by
  by_cases h : x.toInt < 0 ∨ 5 < x.toInt
  · simp [h]
  · have c : x.toInt = 0 ∨ x.toInt = 1 ∨ x.toInt = 2 ∨ x.toInt = 3 ∨ x.toInt = 4 ∨ x.toInt = 5 := by omega
    rcases c with c | c | c | c | c | c
    · exact Or.inl (Int32.toInt_inj.mp c)
    · exact Or.inr (Or.inl (Int32.toInt_inj.mp c))
    · exact Or.inr (Or.inr (Or.inl (Int32.toInt_inj.mp c)))
    · exact Or.inr (Or.inr (Or.inr (Or.inl (Int32.toInt_inj.mp c))))
    · exact Or.inr (Or.inr (Or.inr (Or.inr (Or.inl (Int32.toInt_inj.mp c)))))
    · exact Or.inr (Or.inr (Or.inr (Or.inr (Or.inr (Or.inl (Int32.toInt_inj.mp c))))))
theorem op_cases (x : Int32) : ∃ c, c < 16 ∧ x &&& 15 = nI c := by
  have h : (x &&& 15).toInt = x.toInt % 16 := by
    have q : (x &&& 15).toInt = x.toInt % 2 ^ 4 := Jvm.Kit.i32_mask x 15 (by decide) (by decide)
    exact q
  obtain ⟨n, hn, e⟩ := nn_of (x := x &&& 15) (by omega)
  refine ⟨n, ?_, e⟩
  rw [e, nI_toInt hn] at h
  omega
theorem gSW {own : String} {i : Nat} {y : MethodName} {bytes : ByteArray} {n : Nat} {r : Option FieldType} {hh : List (Nat × Nat × Nat × Nat)} (h1 : Cond.methodLink own i y ∈ GT) (h2 : Cond.static y ∈ GT) (h3 : Cond.initialized y.cls ∈ GT) (h4 : Cond.codeWith y bytes n r hh ∈ GT) : GoodIn GT (va_wsS own i y (Cond.codeWith y bytes n r hh :: GT)) := fun w hw => by
  rcases List.mem_append.mp hw with hw | hw
  · simp only [List.mem_cons, List.not_mem_nil, or_false] at hw
    rcases hw with rfl | rfl | rfl
    · exact GT_good _ h1
    · exact GT_good _ h2
    · exact GT_good _ h3
  · rcases List.mem_cons.mp hw with rfl | hw
    · exact GT_good _ h4
    · exact GT_good _ hw
section RSL
variable {p : Program} {l : Launch} {e : Env} {R : Room} {s : State} {m : MethodId} {args : Array Value} {below : List Frame} {meth : Method} {c : Code} {H : Heap} {locs : List Loc} {cells slots : Nat} {Q : State → Prop} {pc : Nat} {ls : Array Slot} {rest : List Value} {cc : ByteArray} {A : Nat → Prop}
theorem rs_ld (hx : p.tables.exec = Jvm.exec) (hb : c.code = cc) {b L : Nat} {xs : Nat → Int32} (hX : va_X b L xs s s.heap) (hbl : b < s.heap.size) (hbA : ¬ A b) (hS : va_S A s.heap H locs) {a : Nat} (ha : a < L) (hL : L ≤ 3072) (hdg : decode cc pc = .ok (.iaload, 1))
    (kk : W p l e R s m args below meth c H locs cells slots Q (F0 m (pc + 1) ls (.int (xs a) :: rest))) : W p l e R s m args below meth c H locs cells slots Q (F0 m pc ls (.int (nI a) :: .ref b :: rest)) :=
  va_sld hx hb hX hbl hbA hS (vp_in_nI ha (by omega)) hdg (by rw [nI_clamp (by omega)]; exact kk)
end RSL

def LC (p : Program) (l : Launch) (s : State) (m : MethodId) (args : Array Value) (c : Code) (D : va_G) (k : Nat → ClassId) (tb : Nat → Nat) (A : Nat → Prop) (b L : Nat) (xs : Nat → Int32) : Prop := p.tables.exec = Jvm.exec ∧ c.code = cLw_law ∧ c.maxLocals = 8 ∧ s.vm.findClass R_Lw = some m.cls ∧ (∀ w ∈ GT, w.before args s = true) ∧ va_K D vwCl (ty0 k) s ∧ gOk tb A s ∧ (∀ q : Nat, s.heap.size ≤ q → A q) ∧ va_X b L xs s s.heap ∧ b < s.heap.size ∧ ¬ A b ∧ l.stackTraces = false ∧ va_Nc "java/lang/IllegalArgumentException" "java/util/NoSuchElementException" s ∧ L ≤ 3072
def LK (p : Program) (l : Launch) (e : Env) (s : State) (m : MethodId) (args : Array Value) (below : List Frame) (meth : Method) (c : Code) (Q : State → Prop) (D : va_G) (k : Nat → ClassId) (tb : Nat → Nat) (A : Nat → Prop) (b : Nat) (y_bx y_rt y_rs y_ro y_ri y_ra y_ma y_h0 y_h1 y_h2 y_h0st y_h0bk y_h0sc y_h1st y_h1bk y_h1sc y_h2st y_h2bk y_h2sc y_m0 y_m1 y_m2 y_g0 y_m0kb y_m0iq y_m0si y_m0so y_g0st y_g0bk y_g0sc y_g1 y_m1kb y_m1iq y_m1si y_m1so y_g1st y_g1bk y_g1sc y_g2 y_m2kb y_m2iq y_m2si y_m2so y_g2st y_g2bk y_g2sc y_ou y_xt y_xk y_xr y_xu y_xv y_xb y_xw y_xo y_xl y_xp y_yr y_ys y_yw y_yt y_yl y_yc y_mo : Nat) (y_fRt y_fSt : Nat → Int64) (i : Nat) : Prop := ∀ (cells slots : Nat) (z_bt z_nt z_ct : Nat) (z_ft : Nat → Int8) (z_bs z_ns z_cs : Nat) (z_fs : Nat → Int8) (z_bo z_no z_co : Nat) (z_fo : Nat → Int8) (z_bi z_ni z_ci : Nat) (z_fi : Nat → Int8) (z_S0 : Nat → Int64) (z_b0 : Nat → Int8) (z_f0 : Nat → Int32) (z_l0 : Nat) (z_t0 : Int64) (z_c0 : Int32) (z_S1 : Nat → Int64) (z_b1 : Nat → Int8) (z_f1 : Nat → Int64) (z_l1 : Nat) (z_t1 : Int64) (z_c1 : Int32) (z_S2 : Nat → Int64) (z_b2 : Nat → Int8) (z_f2 : Nat → Int64) (z_l2 : Nat) (z_t2 : Int64) (z_c2 z_kc0 : Int32) (z_K0 z_H0 : Nat → Int8) (z_I0 z_O0 z_Sm0 : Nat → Int64) (z_bm0 : Nat → Int8) (z_gm0 : Nat → Int32) (z_lm0 : Nat) (z_tm0 : Int64) (z_cm0 z_kc1 : Int32) (z_K1 z_H1 : Nat → Int8) (z_I1 z_O1 z_Sm1 : Nat → Int64) (z_bm1 : Nat → Int8) (z_gm1 : Nat → Int64) (z_lm1 : Nat) (z_tm1 : Int64) (z_cm1 z_kc2 : Int32) (z_K2 z_H2 : Nat → Int8) (z_I2 z_O2 z_Sm2 : Nat → Int64) (z_bm2 : Nat → Int8) (z_gm2 : Nat → Int64) (z_lm2 : Nat) (z_tm2 : Int64) (z_cm2 : Int32) (z_fq : Nat → Int64) (z_th : Int32) (z_wd : Nat) (z_fT z_fK z_fR z_fU : Nat → Int8) (z_fV z_fB : Nat → Int32) (z_mW z_mO z_mL z_mP : Nat → Int8) (z_wW z_wT z_wL z_wC : Nat → Int64) (z_u0 z_u1 z_u2 : Nat) (H : Heap) (locs : List Loc) (ls : Array Slot), va_P D vwCl (lwW k tb y_bx y_rt y_rs y_ro y_ri y_ra y_ma y_h0 y_h1 y_h2 y_h0st y_h0bk y_h0sc y_h1st y_h1bk y_h1sc y_h2st y_h2bk y_h2sc y_m0 y_m1 y_m2 y_g0 y_m0kb y_m0iq y_m0si y_m0so y_g0st y_g0bk y_g0sc y_g1 y_m1kb y_m1iq y_m1si y_m1so y_g1st y_g1bk y_g1sc y_g2 y_m2kb y_m2iq y_m2si y_m2so y_g2st y_g2bk y_g2sc y_ou y_xt y_xk y_xr y_xu y_xv y_xb y_xw y_xo y_xl y_xp y_yr y_ys y_yw y_yt y_yl y_yc y_mo y_fRt y_fSt z_bt z_nt z_ct z_ft z_bs z_ns z_cs z_fs z_bo z_no z_co z_fo z_bi z_ni z_ci z_fi z_S0 z_b0 z_f0 z_l0 z_t0 z_c0 z_S1 z_b1 z_f1 z_l1 z_t1 z_c1 z_S2 z_b2 z_f2 z_l2 z_t2 z_c2 z_kc0 z_K0 z_H0 z_I0 z_O0 z_Sm0 z_bm0 z_gm0 z_lm0 z_tm0 z_cm0 z_kc1 z_K1 z_H1 z_I1 z_O1 z_Sm1 z_bm1 z_gm1 z_lm1 z_tm1 z_cm1 z_kc2 z_K2 z_H2 z_I2 z_O2 z_Sm2 z_bm2 z_gm2 z_lm2 z_tm2 z_cm2 z_fq z_th z_wd z_fT z_fK z_fR z_fU z_fV z_fB z_mW z_mO z_mL z_mP z_wW z_wT z_wL z_wC z_u0 z_u1 z_u2) H → va_D A (lwW k tb y_bx y_rt y_rs y_ro y_ri y_ra y_ma y_h0 y_h1 y_h2 y_h0st y_h0bk y_h0sc y_h1st y_h1bk y_h1sc y_h2st y_h2bk y_h2sc y_m0 y_m1 y_m2 y_g0 y_m0kb y_m0iq y_m0si y_m0so y_g0st y_g0bk y_g0sc y_g1 y_m1kb y_m1iq y_m1si y_m1so y_g1st y_g1bk y_g1sc y_g2 y_m2kb y_m2iq y_m2si y_m2so y_g2st y_g2bk y_g2sc y_ou y_xt y_xk y_xr y_xu y_xv y_xb y_xw y_xo y_xl y_xp y_yr y_ys y_yw y_yt y_yl y_yc y_mo y_fRt y_fSt z_bt z_nt z_ct z_ft z_bs z_ns z_cs z_fs z_bo z_no z_co z_fo z_bi z_ni z_ci z_fi z_S0 z_b0 z_f0 z_l0 z_t0 z_c0 z_S1 z_b1 z_f1 z_l1 z_t1 z_c1 z_S2 z_b2 z_f2 z_l2 z_t2 z_c2 z_kc0 z_K0 z_H0 z_I0 z_O0 z_Sm0 z_bm0 z_gm0 z_lm0 z_tm0 z_cm0 z_kc1 z_K1 z_H1 z_I1 z_O1 z_Sm1 z_bm1 z_gm1 z_lm1 z_tm1 z_cm1 z_kc2 z_K2 z_H2 z_I2 z_O2 z_Sm2 z_bm2 z_gm2 z_lm2 z_tm2 z_cm2 z_fq z_th z_wd z_fT z_fK z_fR z_fU z_fV z_fB z_mW z_mO z_mL z_mP z_wW z_wT z_wL z_wC z_u0 z_u1 z_u2) → va_S A s.heap H locs → lv_has ls 8 [(4, .int (nI i)), (3, .ref y_ou), (2, .ref y_mo), (1, .ref y_bx), (0, .ref b)] → LI z_nt z_ns z_no z_ni z_ct z_cs z_co z_ci z_u0 z_u1 z_u2 z_ft z_fs z_fo z_fT z_fK z_fR z_fU z_fV z_fB z_S0 z_b0 z_l0 z_c0 z_t0 z_cm0 z_S1 z_b1 z_l1 z_c1 z_t1 z_cm1 z_S2 z_b2 z_l2 z_c2 z_t2 z_cm2 i → cells ≤ 200 + (z_ct + z_cs + z_co + z_ci) + i → slots ≤ 470000 + 2 * (z_ct + z_cs + z_co + z_ci) + 6 * i → W p l e room_1 s m args below meth c H locs cells slots Q (F0 m 23 ls [])
