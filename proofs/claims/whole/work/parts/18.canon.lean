/-! A CELL's contents beyond its length say nothing: worlds with the same contents up to it -/
theorem wc_l {n : Nat} {f g : Nat → Int64} (h : ∀ j, j < n → f j = g j) (cA : ClassId) : vp_cell cA (n, .inr (.inl f)) = vp_cell cA (n, .inr (.inl g)) := by
  rw [vp_cell_l, vp_cell_l]
  unfold arrV
  congr 1
  apply Array.ext
  · simp
  · intro i h1 h2
    simp at h1
    simp [h i h1]
theorem wc_b {n : Nat} {f g : Nat → Int8} (h : ∀ j, j < n → f j = g j) (cA : ClassId) : vp_cell cA (n, .inl (by_ f)) = vp_cell cA (n, .inl (by_ g)) := by
  rw [vp_cell_i, vp_cell_i]
  unfold arrV
  congr 1
  apply Array.ext
  · simp
  · intro i h1 h2
    simp at h1
    simp [by_, h i h1]
theorem wd_put {D : va_G} {cl : List vw_C} {A : Nat → Prop} {ws : va_W} {H : Heap} (hP : va_P D cl ws H) (hD : va_D A ws) (p : Nat) {a : Nat} {cA : ClassId} {x y : vp_A} (he : ws[p]? = some (a, .inl (cA, x))) (h : vp_cell cA x = vp_cell cA y) : va_P D cl (ws.set p (a, .inl (cA, y))) H ∧ va_D A (ws.set p (a, .inl (cA, y))) :=
  ⟨hP.set hD he (show H[a]? = some (vp_cell cA y) from (hP p _ he).trans (by rw [h])) (fun _ _ => rfl), hD.set he⟩
theorem cpy_all {α : Type} (f g : Nat → α) (n : Nat) : ∀ j, j < n → va_cpy f g 0 0 n j = f j := fun j hj => by rw [pk_cpy_in (Nat.zero_le j) (by omega)]; simp
theorem ff1_all (b : Nat → Int8) (v : Int8) (n : Nat) : ∀ j, j < n → ff1 b v 0 n j = v := fun j hj => by rw [ff1_eq, if_pos (by omega)]
