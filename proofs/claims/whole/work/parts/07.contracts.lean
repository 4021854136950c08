/-! CONTRACTS: one form for all. ty0: the array kinds in use; gOk: what stands still (nest mates' links, tables of constants) -/
def ty0 (k : Nat → ClassId) : List (ClassId × FieldType) := [(k 0, .byte), (k 1, .int), (k 2, .long), (k 3, .object "DigestBox$Sha"), (k 4, .object "DigestBox$Mac")]
theorem wd_sub {D : va_G} {cl : List vw_C} {ws wc : va_W} {H : Heap} (hP : va_P D cl ws H) (is : List Nat) (hs : is.map (fun i => ws[i]?) = wc.map some) : va_P D cl wc H := by
  intro j q hj
  obtain ⟨i, -, hi⟩ := va_in_of is hs hj
  exact hP i q hi
theorem gW_warm {s U : State} (hW : s.WarmedH U.vm) (h : ∀ w ∈ gWarm, va_Nw w s) : ∀ w ∈ gWarm, va_Nw w U := by
  intro w hw
  have q := h w hw
  have z : (∃ a i b n d x, w = .fieldLinkNest a i b n d x) ∨ (∃ a i x y, w = .methodLinkNest a i x y) ∨ (∃ x, w = .declares x) ∨ (∃ x y, w = .castable x y) := gWarm_kind w hw
  rcases z with ⟨a, i, b, n, d, x, rfl⟩ | ⟨a, i, x, y, rfl⟩ | ⟨x, rfl⟩ | ⟨x, y, rfl⟩
  · exact va_Nw.warmF hW q
  · exact va_Nw.warmM hW q
  · exact va_Nw.warmD hW q
  · exact va_Nw.warmC hW q
theorem gW_same {u U : State} (e : u.vm = U.vm) (h : ∀ w ∈ gWarm, va_Nw w u) : ∀ w ∈ gWarm, va_Nw w U := by
  intro w hw
  have z : (∃ a i b n d x, w = .fieldLinkNest a i b n d x) ∨ (∃ a i x y, w = .methodLinkNest a i x y) ∨ (∃ x, w = .declares x) ∨ (∃ x y, w = .castable x y) := gWarm_kind w hw
  exact va_Nw.same (by rcases z with ⟨a, i, b, n, d, x, rfl⟩ | ⟨a, i, x, y, rfl⟩ | ⟨x, rfl⟩ | ⟨x, y, rfl⟩ <;> rfl) e (h w hw)
/-- the tables of constants, where they lie -/
def gT (tb : Nat → Nat) (A : Nat → Prop) (U : State) (H : Heap) : Prop :=
  (va_Z "DigestBox" "SHA_256_START" "[J" (.ref (tb 0)) A U H ∧ va_T .long (tb 0) 8 (fun j => .long (i256 j)) A U H) ∧
  (va_Z "DigestBox" "SHA_384_START" "[J" (.ref (tb 1)) A U H ∧ va_T .long (tb 1) 8 (fun j => .long (i384 j)) A U H) ∧
  (va_Z "DigestBox" "SHA_512_START" "[J" (.ref (tb 2)) A U H ∧ va_T .long (tb 2) 8 (fun j => .long (i512 j)) A U H) ∧
  (va_Z "DigestBox" "LABEL_PREFIX" "[B" (.ref (tb 3)) A U H ∧ va_T .byte (tb 3) 6 (fun j => .int (by_ lblP j)) A U H) ∧
  (va_Z "DigestBox$NarrowSha" "ROUND_CONSTANTS" "[I" (.ref (tb 4)) A U H ∧ va_T .int (tb 4) 64 (fun j => .int (kN j)) A U H) ∧
  (va_Z "DigestBox$WideSha" "ROUND_CONSTANTS" "[J" (.ref (tb 5)) A U H ∧ va_T .long (tb 5) 80 (fun j => .long (kW j)) A U H) ∧
  vx_Zq "java/lang/Throwable" "UNASSIGNED_STACK" "[Ljava/lang/StackTraceElement;" A U H ∧ vx_Zq "java/lang/Throwable" "SUPPRESSED_SENTINEL" "Ljava/util/List;" A U H
theorem gT.moved {tb : Nat → Nat} {A : Nat → Prop} {u U : State} {H : Heap} (hvm : u.vm.Alike U.vm) (h : gT tb A u H) : gT tb A U H := by
  obtain ⟨⟨a1, a2⟩, ⟨b1, b2⟩, ⟨c1, c2⟩, ⟨d1, d2⟩, ⟨e1, e2⟩, ⟨f1, f2⟩, g1, g2⟩ := h
  exact ⟨⟨a1.moved hvm, a2.moved hvm⟩, ⟨b1.moved hvm, b2.moved hvm⟩, ⟨c1.moved hvm, c2.moved hvm⟩, ⟨d1.moved hvm, d2.moved hvm⟩, ⟨e1.moved hvm, e2.moved hvm⟩, ⟨f1.moved hvm, f2.moved hvm⟩, g1.moved hvm, g2.moved hvm⟩
theorem gT.kept {tb : Nat → Nat} {A : Nat → Prop} {U : State} {H H1 : Heap} (h : gT tb A U H) (hq : ∀ a : Nat, a < H.size → ¬ A a → H1[a]? = H[a]?) : gT tb A U H1 := by
  obtain ⟨⟨a1, a2⟩, ⟨b1, b2⟩, ⟨c1, c2⟩, ⟨d1, d2⟩, ⟨e1, e2⟩, ⟨f1, f2⟩, g1, g2⟩ := h
  exact ⟨⟨a1.kept hq, a2.kept hq⟩, ⟨b1.kept hq, b2.kept hq⟩, ⟨c1.kept hq, c2.kept hq⟩, ⟨d1.kept hq, d2.kept hq⟩, ⟨e1.kept hq, e2.kept hq⟩, ⟨f1.kept hq, f2.kept hq⟩, g1.kept hq, g2.kept hq⟩
theorem gT.less {tb : Nat → Nat} {A B : Nat → Prop} {U : State} {H : Heap} (h : gT tb A U H) (hq : ∀ q, B q → A q) : gT tb B U H := by
  obtain ⟨⟨a1, a2⟩, ⟨b1, b2⟩, ⟨c1, c2⟩, ⟨d1, d2⟩, ⟨e1, e2⟩, ⟨f1, f2⟩, g1, g2⟩ := h
  exact ⟨⟨a1.narrow hq, a2.narrow hq⟩, ⟨b1.narrow hq, b2.narrow hq⟩, ⟨c1.narrow hq, c2.narrow hq⟩, ⟨d1.narrow hq, d2.narrow hq⟩, ⟨e1.narrow hq, e2.narrow hq⟩, ⟨f1.narrow hq, f2.narrow hq⟩, g1.narrow hq, g2.narrow hq⟩
def gOk (tb : Nat → Nat) (A : Nat → Prop) (U : State) : Prop := (∀ w ∈ gWarm, va_Nw w U) ∧ gT tb A U U.heap ∧ va_AO "DigestBox$Sha" U ∧ va_AO "DigestBox$Mac" U
theorem gOk.call {tb : Nat → Nat} {A B : Nat → Prop} {s U : State} {H : Heap} {locs : List Loc} (h : gOk tb A s) (hS : va_S A s.heap H locs) (hU : U.heap = H) (hW : s.WarmedH U.vm) (hF : ∀ q, B q → A q) : gOk tb B U := by
  obtain ⟨h1, h2, h3, h4⟩ := h
  exact ⟨gW_warm hW h1, by rw [hU]; exact ((h2.kept hS.2.1).moved hW.alike).less hF, h3.moved hW.alike, h4.moved hW.alike⟩
theorem gOk.same {tb : Nat → Nat} {A : Nat → Prop} {u U : State} (hv : u.vm = U.vm) (hh : U.heap = u.heap) (h : gOk tb A u) : gOk tb A U := by
  obtain ⟨h1, h2, h3, h4⟩ := h
  have ha : u.vm.Alike U.vm := by rw [hv]; exact Vm.Alike.refl _
  exact ⟨gW_same hv h1, by rw [hh]; exact h2.moved ha, h3.moved ha, h4.moved ha⟩
theorem gOk.nest {tb : Nat → Nat} {A : Nat → Prop} {s : State} {args : Array Value} (h : gOk tb A s) {w : Cond} (hw : w ∈ gWarm) (ht : w.onTables = true) : w.before args s = true := va_Nw.use ht (h.1 w hw)
def cP (D : va_G) (k : Nat → ClassId) (tb : Nat → Nat) (ws : va_W) (sz : Nat) (av : List Value) : Array Value → State → Prop := va_Pc av (fun U => U.heap.size = sz ∧ va_P D vwCl ws U.heap ∧ va_K D vwCl (ty0 k) U ∧ va_D (fun _ => True) ws ∧ gOk tb (va_A ws sz) U)
theorem cP_blind {D : va_G} {k : Nat → ClassId} {tb : Nat → Nat} {ws : va_W} {sz : Nat} {av : List Value} : FrameBlind (cP D k tb ws sz av) := by
  intro a U g mk h
  obtain ⟨h0, h1, h2, h3, h4, h5⟩ := h
  exact ⟨h0, h1, h2, va_K.moved (u := U) (U := U.calling g mk a) (Vm.Alike.refl U.vm) h3, h4, gOk.same (u := U) (U := U.calling g mk a) rfl rfl h5⟩
section RC
variable {p : Program} {l : Launch} {e : Env} {R : Room} {s : State} {m : MethodId} {args : Array Value} {below : List Frame} {meth : Method} {c : Code} {H : Heap} {locs : List Loc} {cells slots : Nat} {Q : State → Prop} {pc : Nat} {ls : Array Slot} {rest st0 : List Value} {cc : ByteArray} {D : va_G} {k : Nat → ClassId} {tb : Nat → Nat} {ws wc wr : va_W} {A : Nat → Prop} {mc ms : Nat} {av : Array Value}
theorem cw_start {g : JFrame} (hP : va_P D vwCl ws s.heap) (kk : ∀ (H : Heap) (locs : List Loc), va_P D vwCl ws H → va_S A s.heap H locs → W p l e R s m args below meth c H locs cells slots Q g) : W p l e R s m args below meth c s.heap [] cells slots Q g := kk s.heap [] hP va_S.rf
theorem cP_S (hP : va_P D vwCl ws H) (hD : va_D A ws) (hK : va_K D vwCl (ty0 k) s) (hG : gOk tb A s) (hS : va_S A s.heap H locs) (hA : ∀ q, s.heap.size ≤ q → A q) {As : List Value} (is : List Nat) (hn : va_nd is = true) (hs : is.map (fun i => ws[i]?) = wc.map some) : PreS s H (cP D k tb wc H.size As) As :=
  ⟨cP_blind, fun U hU hW => ⟨rfl, by rw [hU], by rw [hU]; exact wd_sub hP is hs, va_K.moved hW.alike hK, (hD.sub is hn hs).weaken (fun _ _ _ _ => trivial), gOk.call hG hS hU hW (va_free hD hS hA is hs)⟩⟩
theorem cP_V (hP : va_P D vwCl ws H) (hD : va_D A ws) (hK : va_K D vwCl (ty0 k) s) (hG : gOk tb A s) (hS : va_S A s.heap H locs) (hA : ∀ q, s.heap.size ≤ q → A q) {b : Nat} {As : List Value} (is : List Nat) (hn : va_nd is = true) (hs : is.map (fun i => ws[i]?) = wc.map some) {ci q0 : Nat} {q : vw_C} {fs : List Value} (hc : vwCl[ci]? = some q) (he : ws[q0]? = some (b, .inr (ci, fs))) : PreV s H q.1 b (cP D k tb wc H.size (.ref b :: As)) As :=
  ⟨cP_blind, va_recv hK hP hc he, (cP_S (As := .ref b :: As) hP hD hK hG hS hA is hn hs).2⟩
theorem rc_v {S : Type} {post : S → Prop} {w1 : S → va_W} (hr : va_Run p l e R s m args below meth c H locs cells slots mc ms (F0 m pc ls st0) rest (va_Qv post (fun (u : S) (t : State) => va_P D vwCl (w1 u) t.heap ∧ va_D (va_A wc H.size) (w1 u)) (va_A wc H.size) av) (va_A wc H.size)) (hS : va_S A s.heap H locs) (hA : ∀ q, s.heap.size ≤ q → A q) (hP : va_P D vwCl ws H) (hD : va_D A ws) (isC isR : List Nat) (hC : isC.map (fun i => ws[i]?) = wc.map some) (hR : isR.map (fun i => ws[i]?) = wr.map some) (hn : va_nd isR = true) (hdis : ∀ i ∈ isR, i ∉ isC)
    (kk : ∀ (u : S) (H1 : Heap) (locs1 : List Loc), post u → va_P D vwCl (wr ++ w1 u) H1 → va_D A (wr ++ w1 u) → va_S A s.heap H1 locs1 → W p l e R s m args below meth c H1 locs1 (cells + mc) (slots + ms) Q (F0 m (pc + 3) ls rest)) : W p l e R s m args below meth c H locs cells slots Q (F0 m pc ls st0) := by
  have hF := va_free hD hS hA isC hC
  refine va_callv hr hS (fun q _ h => hF q h) hF (fun u t H1 locs1 ht hvm hw hB hz hk hS1 => ?_)
  obtain ⟨hP1, hD1⟩ := hB
  rw [ht] at hP1
  obtain ⟨hP2, hD2⟩ := va_join hP hD isC isR hC hR hn hdis hk hF hP1 hD1
  exact kk u H1 locs1 hw hP2 hD2 hS1
theorem rc_i {S : Type} {post : Int32 → S → Prop} {w1 : S → va_W} (hr : va_Run p l e R s m args below meth c H locs cells slots mc ms (F0 m pc ls st0) rest (va_Qi post (fun (u : S) (t : State) => va_P D vwCl (w1 u) t.heap ∧ va_D (va_A wc H.size) (w1 u)) (va_A wc H.size) av) (va_A wc H.size)) (hS : va_S A s.heap H locs) (hA : ∀ q, s.heap.size ≤ q → A q) (hP : va_P D vwCl ws H) (hD : va_D A ws) (isC isR : List Nat) (hC : isC.map (fun i => ws[i]?) = wc.map some) (hR : isR.map (fun i => ws[i]?) = wr.map some) (hn : va_nd isR = true) (hdis : ∀ i ∈ isR, i ∉ isC)
    (kk : ∀ (r : Int32) (u : S) (H1 : Heap) (locs1 : List Loc), post r u → va_P D vwCl (wr ++ w1 u) H1 → va_D A (wr ++ w1 u) → va_S A s.heap H1 locs1 → W p l e R s m args below meth c H1 locs1 (cells + mc) (slots + ms) Q (F0 m (pc + 3) ls (.int r :: rest))) : W p l e R s m args below meth c H locs cells slots Q (F0 m pc ls st0) := by
  have hF := va_free hD hS hA isC hC
  refine va_calli hr hS (fun q _ h => hF q h) hF (fun r u t H1 locs1 ht hvm hw hB hz hk hS1 => ?_)
  obtain ⟨hP1, hD1⟩ := hB
  rw [ht] at hP1
  obtain ⟨hP2, hD2⟩ := va_join hP hD isC isR hC hR hn hdis hk hF hP1 hD1
  exact kk r u H1 locs1 hw hP2 hD2 hS1
theorem rc_l {S : Type} {post : Int64 → S → Prop} {w1 : S → va_W} (hr : va_Run p l e R s m args below meth c H locs cells slots mc ms (F0 m pc ls st0) rest (va_Ql post (fun (u : S) (t : State) => va_P D vwCl (w1 u) t.heap ∧ va_D (va_A wc H.size) (w1 u)) (va_A wc H.size) av) (va_A wc H.size)) (hS : va_S A s.heap H locs) (hA : ∀ q, s.heap.size ≤ q → A q) (hP : va_P D vwCl ws H) (hD : va_D A ws) (isC isR : List Nat) (hC : isC.map (fun i => ws[i]?) = wc.map some) (hR : isR.map (fun i => ws[i]?) = wr.map some) (hn : va_nd isR = true) (hdis : ∀ i ∈ isR, i ∉ isC)
    (kk : ∀ (r : Int64) (u : S) (H1 : Heap) (locs1 : List Loc), post r u → va_P D vwCl (wr ++ w1 u) H1 → va_D A (wr ++ w1 u) → va_S A s.heap H1 locs1 → W p l e R s m args below meth c H1 locs1 (cells + mc) (slots + ms) Q (F0 m (pc + 3) ls (.long r :: rest))) : W p l e R s m args below meth c H locs cells slots Q (F0 m pc ls st0) := by
  have hF := va_free hD hS hA isC hC
  refine va_calll hr hS (fun q _ h => hF q h) hF (fun r u t H1 locs1 ht hvm hw hB hz hk hS1 => ?_)
  obtain ⟨hP1, hD1⟩ := hB
  rw [ht] at hP1
  obtain ⟨hP2, hD2⟩ := va_join hP hD isC isR hC hR hn hdis hk hF hP1 hD1
  exact kk r u H1 locs1 hw hP2 hD2 hS1
theorem rc_r {S : Type} {post : S → Prop} {w1 : S → Nat → va_W} (hr : va_Run p l e R s m args below meth c H locs cells slots mc ms (F0 m pc ls st0) rest (va_Qr post (fun (u : S) (a9 : Nat) (t : State) => va_P D vwCl (w1 u a9) t.heap ∧ va_D (va_A wc H.size) (w1 u a9)) (va_A wc H.size) av) (va_A wc H.size)) (hS : va_S A s.heap H locs) (hA : ∀ q, s.heap.size ≤ q → A q) (hP : va_P D vwCl ws H) (hD : va_D A ws) (isC isR : List Nat) (hC : isC.map (fun i => ws[i]?) = wc.map some) (hR : isR.map (fun i => ws[i]?) = wr.map some) (hn : va_nd isR = true) (hdis : ∀ i ∈ isR, i ∉ isC)
    (kk : ∀ (u : S) (a9 : Nat) (H1 : Heap) (locs1 : List Loc), post u → va_P D vwCl (wr ++ w1 u a9) H1 → va_D A (wr ++ w1 u a9) → va_S A s.heap H1 locs1 → W p l e R s m args below meth c H1 locs1 (cells + mc) (slots + ms) Q (F0 m (pc + 3) ls (.ref a9 :: rest))) : W p l e R s m args below meth c H locs cells slots Q (F0 m pc ls st0) := by
  have hF := va_free hD hS hA isC hC
  refine va_callr hr hS (fun q _ h => hF q h) hF (fun u a9 t H1 locs1 ht hvm hw hB hz hk hS1 => ?_)
  obtain ⟨hP1, hD1⟩ := hB
  rw [ht] at hP1
  obtain ⟨hP2, hD2⟩ := va_join hP hD isC isR hC hR hn hdis hk hF hP1 hD1
  exact kk u a9 H1 locs1 hw hP2 hD2 hS1
theorem rs_ishl (hx : p.tables.exec = Jvm.exec) (hb : c.code = cc) {x y : Int32} (hdg : decode cc pc = .ok (.ishl, 1)) (kk : W p l e R s m args below meth c H locs cells slots Q (F0 m (pc + 1) ls (.int (il x y) :: rest))) : W p l e R s m args below meth c H locs cells slots Q (F0 m pc ls (.int y :: .int x :: rest)) := lv_ishl hx hb hdg kk
end RC
