/-! NEW ARRAYS of the kinds in use -/
section RK
variable {p : Program} {l : Launch} {e : Env} {R : Room} {s : State} {m : MethodId} {args : Array Value} {below : List Frame} {meth : Method} {c : Code} {H H0 : Heap} {locs : List Loc} {cells slots : Nat} {Q : State → Prop} {pc : Nat} {ls : Array Slot} {rest : List Value} {cc : ByteArray} {D : va_G} {k : Nat → ClassId} {ws : va_W} {A : Nat → Prop}
theorem rk_newb (hx : p.tables.exec = Jvm.exec) (hb : c.code = cc) (harr : (Cond.arrayClass .byte).before args s = true) (hK : va_K D vwCl (ty0 k) s) (hP : va_P D vwCl ws H) (hD : va_D A ws) (hS : va_S A H0 H locs) (hA : ∀ q, H0.size ≤ q → A q) {n : Nat} (hn : n ≤ 536870912) (hcells : cells + 1 ≤ R.cells) (hslots : slots + n ≤ R.slots) (hdg : decode cc pc = .ok (.newarray .byte, 2))
    (kk : ∀ (q : Nat) (H1 : Heap), va_P D vwCl (ws ++ [(q, .inl (k 0, n, .inl (by_ (fun _ => 0))))]) H1 → va_D A (ws ++ [(q, .inl (k 0, n, .inl (by_ (fun _ => 0))))]) → va_S A H0 H1 locs → W p l e R s m args below meth c H1 locs (cells + 1) (slots + n) Q (F0 m (pc + 2) ls (.ref q :: rest))) : W p l e R s m args below meth c H locs cells slots Q (F0 m pc ls (.int (nI n) :: rest)) :=
  ra_newb hx hb harr hK hP hD hS hA hn hcells hslots hdg (fun q cA H1 hK1 hP1 hD1 hS1 => by
    have e : cA = k 0 := ra_same hK1 (i := 5) (j := 0) rfl rfl rfl
    subst e
    exact kk q H1 hP1 hD1 hS1)
theorem rk_newi (hx : p.tables.exec = Jvm.exec) (hb : c.code = cc) (harr : (Cond.arrayClass .int).before args s = true) (hK : va_K D vwCl (ty0 k) s) (hP : va_P D vwCl ws H) (hD : va_D A ws) (hS : va_S A H0 H locs) (hA : ∀ q, H0.size ≤ q → A q) {n : Nat} (hn : n ≤ 50000000) (hcells : cells + 1 ≤ R.cells) (hslots : slots + n ≤ R.slots) (hdg : decode cc pc = .ok (.newarray .int, 2))
    (kk : ∀ (q : Nat) (H1 : Heap), va_P D vwCl (ws ++ [(q, .inl (k 1, n, .inl (fun _ => 0)))]) H1 → va_D A (ws ++ [(q, .inl (k 1, n, .inl (fun _ => 0)))]) → va_S A H0 H1 locs → W p l e R s m args below meth c H1 locs (cells + 1) (slots + n) Q (F0 m (pc + 2) ls (.ref q :: rest))) : W p l e R s m args below meth c H locs cells slots Q (F0 m pc ls (.int (nI n) :: rest)) :=
  ra_newi hx hb harr hK hP hD hS hA hn hcells hslots hdg (fun q cA H1 hK1 hP1 hD1 hS1 => by
    have e : cA = k 1 := ra_same hK1 (i := 5) (j := 1) rfl rfl rfl
    subst e
    exact kk q H1 hP1 hD1 hS1)
theorem rk_newl (hx : p.tables.exec = Jvm.exec) (hb : c.code = cc) (harr : (Cond.arrayClass .long).before args s = true) (hK : va_K D vwCl (ty0 k) s) (hP : va_P D vwCl ws H) (hD : va_D A ws) (hS : va_S A H0 H locs) (hA : ∀ q, H0.size ≤ q → A q) {n : Nat} (hn : n ≤ 50000000) (hcells : cells + 1 ≤ R.cells) (hslots : slots + n ≤ R.slots) (hdg : decode cc pc = .ok (.newarray .long, 2))
    (kk : ∀ (q : Nat) (H1 : Heap), va_P D vwCl (ws ++ [(q, .inl (k 2, n, .inr (.inl (fun _ => 0))))]) H1 → va_D A (ws ++ [(q, .inl (k 2, n, .inr (.inl (fun _ => 0))))]) → va_S A H0 H1 locs → W p l e R s m args below meth c H1 locs (cells + 1) (slots + n) Q (F0 m (pc + 2) ls (.ref q :: rest))) : W p l e R s m args below meth c H locs cells slots Q (F0 m pc ls (.int (nI n) :: rest)) :=
  ra_newl hx hb harr hK hP hD hS hA hn hcells hslots hdg (fun q cA H1 hK1 hP1 hD1 hS1 => by
    have e : cA = k 2 := ra_same hK1 (i := 5) (j := 2) rfl rfl rfl
    subst e
    exact kk q H1 hP1 hD1 hS1)
end RK
/-- how a row's room grows -/
def gc (cap w : Nat) : Nat := if w ≤ cap then cap else max w (2 * cap)
theorem gc_le (cap w : Nat) : cap ≤ gc cap w := by unfold gc; split <;> omega
theorem gc_ge (cap w : Nat) : w ≤ gc cap w := by unfold gc; split <;> omega
theorem gc_lt {cap w n : Nat} (h1 : cap ≤ n) (h2 : 2 * w ≤ n) : gc cap w ≤ n := by unfold gc; split <;> omega
/-- the room behind n bytes more, one by one -/
def gcs (cap len : Nat) : Nat → Nat
  | 0 => cap
  | n + 1 => gc (gcs cap len n) (len + n + 1)
theorem gcs_s (cap len n : Nat) : gc (gcs cap len n) (len + n + 1) = gcs cap len (n + 1) := rfl
theorem gcs_0 (cap len : Nat) : gcs cap len 0 = cap := rfl
theorem gcs_le (cap len n : Nat) : gcs cap len n ≤ gcs cap len (n + 1) := gc_le _ _
theorem gcs_ge {cap len : Nat} (h : len ≤ cap) : ∀ n, len + n ≤ gcs cap len n
  | 0 => h
  | n + 1 => gc_ge _ _
theorem gcs_lt {cap len m : Nat} (h1 : cap ≤ m) : ∀ n, 2 * (len + n) ≤ m → gcs cap len n ≤ m
  | 0, _ => h1
  | n + 1, h => gc_lt (gcs_lt h1 n (by omega)) (by omega)
theorem gcs_add (cap len a : Nat) : ∀ b, gcs (gcs cap len a) (len + a) b = gcs cap len (a + b)
  | 0 => rfl
  | b + 1 => by
    show gc (gcs (gcs cap len a) (len + a) b) (len + a + b + 1) = gc (gcs cap len (a + b)) (len + (a + b) + 1)
    rw [gcs_add cap len a b, Nat.add_assoc len a b]
theorem gcs_mono (cap len a : Nat) : ∀ b, gcs cap len a ≤ gcs cap len (a + b)
  | 0 => Nat.le_refl _
  | b + 1 => Nat.le_trans (gcs_mono cap len a b) (gcs_le cap len (a + b))
