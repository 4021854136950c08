/-! DigestBox: rows of its own -/
section RQ
variable {p : Program} {l : Launch} {e : Env} {R : Room} {s : State} {m : MethodId} {args : Array Value} {below : List Frame} {meth : Method} {c : Code} {H : Heap} {locs : List Loc} {cells slots : Nat} {Q : State → Prop} {pc : Nat} {ls : Array Slot} {rest : List Value} {cc : ByteArray} {D : va_G} {cl : List vw_C} {ws : va_W} {tys : List (ClassId × FieldType)} {a : Nat}
theorem rq_ld (hx : p.tables.exec = Jvm.exec) (hb : c.code = cc) (hK : va_K D cl tys s) (hP : va_P D cl ws H) (q0 t0 : Nat) {cA : ClassId} {C : String} {n : Nat} {f : Nat → Option Nat} (ha : ws[q0]? = some (a, .inl (cA, n, .inr (.inr (.inr (.inr f)))))) (ht : tys[t0]? = some (cA, .object C)) {kx h : Nat} (hk : kx < n) (hn : n < 2 ^ 31) (hf : f kx = some h) (hdg : decode cc pc = .ok (.aaload, 1))
    (kk : W p l e R s m args below meth c H locs cells slots Q (F0 m (pc + 1) ls (.ref h :: rest))) : W p l e R s m args below meth c H locs cells slots Q (F0 m pc ls (.int (nI kx) :: .ref a :: rest)) :=
  va_aldq hx hb hK hP q0 t0 ha ht (vp_in_nI hk hn) hdg (by rw [nI_clamp (by omega), hf]; exact kk)
end RQ
/-- the twenty bytes of five numbers -/
def fdF (p0 p1 p2 p3 p4 : Int32) (i : Nat) : Int8 := (match i % 4 with | 0 => iu (if i < 4 then p0 else if i < 8 then p1 else if i < 12 then p2 else if i < 16 then p3 else p4) 24 | 1 => iu (if i < 4 then p0 else if i < 8 then p1 else if i < 12 then p2 else if i < 16 then p3 else p4) 16 | 2 => iu (if i < 4 then p0 else if i < 8 then p1 else if i < 12 then p2 else if i < 16 then p3 else p4) 8 | _ => (if i < 4 then p0 else if i < 8 then p1 else if i < 12 then p2 else if i < 16 then p3 else p4)).toInt8
def fdQ (f2 f1 : Nat → Int8) (n : Nat) (v : Int32) : Prop := (∀ j, j < n → f2 j = f1 j) ∧ f2 n = (iu v 24).toInt8 ∧ f2 (n + 1) = (iu v 16).toInt8 ∧ f2 (n + 2) = (iu v 8).toInt8 ∧ f2 (n + 3) = v.toInt8
theorem fdB {ft f1 f2 f3 f4 f5 : Nat → Int8} {nt : Nat} {p0 p1 p2 p3 p4 : Int32} (h1 : fdQ f1 ft (nt + 0) p0) (h2 : fdQ f2 f1 (nt + 4) p1) (h3 : fdQ f3 f2 (nt + 8) p2) (h4 : fdQ f4 f3 (nt + 12) p3) (h5 : fdQ f5 f4 (nt + 16) p4) : (∀ j, j < nt → f5 j = ft j) ∧ ∀ i, i < 20 → f5 (nt + i) = fdF p0 p1 p2 p3 p4 i := by
  obtain ⟨a1, b1, c1, d1, e1⟩ := h1
  obtain ⟨a2, b2, c2, d2, e2⟩ := h2
  obtain ⟨a3, b3, c3, d3, e3⟩ := h3
  obtain ⟨a4, b4, c4, d4, e4⟩ := h4
  obtain ⟨a5, b5, c5, d5, e5⟩ := h5
  refine ⟨fun j hj => by rw [a5 j (by omega), a4 j (by omega), a3 j (by omega), a2 j (by omega), a1 j (by omega)], fun i hi => ?_⟩
  match i, hi with
  | 0, _ => rw [a5 _ (by omega), a4 _ (by omega), a3 _ (by omega), a2 _ (by omega)]; exact b1
  | 1, _ => rw [a5 _ (by omega), a4 _ (by omega), a3 _ (by omega), a2 _ (by omega)]; exact c1
  | 2, _ => rw [a5 _ (by omega), a4 _ (by omega), a3 _ (by omega), a2 _ (by omega)]; exact d1
  | 3, _ => rw [a5 _ (by omega), a4 _ (by omega), a3 _ (by omega), a2 _ (by omega)]; exact e1
  | 4, _ => rw [a5 _ (by omega), a4 _ (by omega), a3 _ (by omega)]; exact b2
  | 5, _ => rw [a5 _ (by omega), a4 _ (by omega), a3 _ (by omega)]; exact c2
  | 6, _ => rw [a5 _ (by omega), a4 _ (by omega), a3 _ (by omega)]; exact d2
  | 7, _ => rw [a5 _ (by omega), a4 _ (by omega), a3 _ (by omega)]; exact e2
  | 8, _ => rw [a5 _ (by omega), a4 _ (by omega)]; exact b3
  | 9, _ => rw [a5 _ (by omega), a4 _ (by omega)]; exact c3
  | 10, _ => rw [a5 _ (by omega), a4 _ (by omega)]; exact d3
  | 11, _ => rw [a5 _ (by omega), a4 _ (by omega)]; exact e3
  | 12, _ => rw [a5 _ (by omega)]; exact b4
  | 13, _ => rw [a5 _ (by omega)]; exact c4
  | 14, _ => rw [a5 _ (by omega)]; exact d4
  | 15, _ => rw [a5 _ (by omega)]; exact e4
  | 16, _ => exact b5
  | 17, _ => exact c5
  | 18, _ => exact d5
  | 19, _ => exact e5
  | i + 20, hi => omega
/-- the steps of an expansion: their words, their texts' lengths, the blocks that they count -/
def ekS (B wb : Nat) (cmp : Cmp) (iv : Nat → Int64) (nh : Nat) (K fe : Nat → Int8) (ne : Nat) : Nat → Nat → Int64
  | 0 => hmS B wb cmp iv nh K (catT ne fe (fun _ => (nI (0 + 1)).toInt8)) (ne + 1)
  | i + 1 => hmS B wb cmp iv nh K (catT nh (hBy (ekS B wb cmp iv nh K fe ne i) wb) (catT ne fe (fun _ => (nI (i + 1 + 1)).toInt8))) (nh + ne + 1)
def ekL (nh ne i : Nat) : Nat := if i = 0 then ne + 1 else nh + ne + 1
def ekC (B wb nh kn ne : Nat) : Nat → Nat
  | 0 => 0
  | i + 1 => ekC B wb nh kn ne i + (kn + nb B wb (B + ekL nh ne i) + nb B wb (B + nh))
theorem ekS_0 {B wb : Nat} {cmp : Cmp} {iv : Nat → Int64} {nh : Nat} {K fe : Nat → Int8} {ne i : Nat} (h : i = 0) : hmS B wb cmp iv nh K (catT ne fe (fun _ => (nI (i + 1)).toInt8)) (ne + 1) = ekS B wb cmp iv nh K fe ne i := by subst h; rfl
theorem ekS_p {B wb : Nat} {cmp : Cmp} {iv : Nat → Int64} {nh : Nat} {K fe : Nat → Int8} {ne i : Nat} (h : 0 < i) : hmS B wb cmp iv nh K (catT nh (hBy (ekS B wb cmp iv nh K fe ne (i - 1)) wb) (catT ne fe (fun _ => (nI (i + 1)).toInt8))) (nh + ne + 1) = ekS B wb cmp iv nh K fe ne i := by
  obtain ⟨z, rfl⟩ : ∃ z, i = z + 1 := ⟨i - 1, by omega⟩
  rfl
theorem ekL_0 {nh ne i : Nat} (h : i = 0) : ne + 1 = ekL nh ne i := by unfold ekL; rw [if_pos h]
theorem ekL_p {nh ne i : Nat} (h : 0 < i) : nh + ne + 1 = ekL nh ne i := by unfold ekL; rw [if_neg (by omega)]
theorem ek_put {st : Nat → Int64} {wb : Nat} {fo : Nat → Int8} {i nh : Nat} {E : Nat → Nat → Int64} (h : ∀ q, q < i → ∀ j, j < nh → fo (q * nh + j) = hBy (E q) wb j) (hs : st = E i) : ∀ q, q < i + 1 → ∀ j, j < nh → whB st wb fo (i * nh) nh (q * nh + j) = hBy (E q) wb j := fun q hq j hj => by
  rw [whB_eq]
  by_cases e : q = i
  · subst e
    rw [if_pos (by omega), Nat.add_sub_cancel_left, hs]; rfl
  · have h1 : q * nh + nh ≤ i * nh := by
      have := Nat.mul_le_mul_right nh (show q + 1 ≤ i by omega)
      rw [Nat.succ_mul] at this
      exact this
    rw [if_neg (by omega)]
    exact h q (by omega) j hj
theorem ek_cnt (bc : Int32) (e x y z : Nat) : bc + nI e + nI (x + 2) - 1 + nI y - 1 + nI z = bc + nI (e + (x + y + z)) := by
  rw [hm_cnt, Int32.add_assoc, nI_add]
theorem ek_le {i sp nh : Nat} (h : i < sp) : i * nh + nh ≤ sp * nh := by
  have := Nat.mul_le_mul_right nh (show i + 1 ≤ sp by omega)
  rw [Nat.succ_mul] at this
  exact this
theorem ek_eq {i nh : Nat} (h : 0 < i) : (i - 1) * nh + nh = i * nh := by
  obtain ⟨z, rfl⟩ : ∃ z, i = z + 1 := ⟨i - 1, by omega⟩
  rw [Nat.succ_mul]; rfl
