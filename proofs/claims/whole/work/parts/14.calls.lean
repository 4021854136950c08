/-! CALLS among the methods: their words, by GT -/
theorem gC {y : MethodName} {bytes : ByteArray} {n : Nat} {r : Option FieldType} (h : Cond.code y bytes n r ∈ GT) : GoodIn GT (Cond.code y bytes n r :: GT) := fun w hw => by
  rcases List.mem_cons.mp hw with rfl | hw
  · exact GT_good _ h
  · exact GT_good _ hw
theorem gV {own C : String} {i : Nat} {y : MethodName} {bytes : ByteArray} {n : Nat} {r : Option FieldType} (h1 : Cond.methodLink own i y ∈ GT) (h2 : Cond.instanceMethod y ∈ GT) (h3 : Cond.selects C y y ∈ GT) (h4 : Cond.initialized C ∈ GT) (h5 : Cond.code y bytes n r ∈ GT) : GoodIn GT (wsV own i C y (Cond.code y bytes n r :: GT)) := fun w hw => by
  rcases List.mem_append.mp hw with hw | hw
  · simp only [List.mem_cons, List.not_mem_nil, or_false] at hw
    rcases hw with rfl | rfl | rfl | rfl
    · exact GT_good _ h1
    · exact GT_good _ h2
    · exact GT_good _ h3
    · exact GT_good _ h4
  · exact gC h5 w hw
theorem gU {own C owner : String} {i : Nat} {x y : MethodName} {bytes : ByteArray} {n : Nat} {r : Option FieldType} (h1 : Cond.methodLink own i x ∈ GT) (h2 : Cond.sameMethod x.cls owner x.name x.desc ∈ GT) (h3 : Cond.selects C x y ∈ GT) (h4 : Cond.instanceMethod y ∈ GT) (h5 : Cond.initialized y.cls ∈ GT) (h6 : Cond.code y bytes n r ∈ GT) : GoodIn GT (va_wsU own i C owner x y (Cond.code y bytes n r :: GT)) := fun w hw => by
  rcases List.mem_append.mp hw with hw | hw
  · simp only [List.mem_cons, List.not_mem_nil, or_false] at hw
    rcases hw with rfl | rfl | rfl | rfl | rfl
    · exact GT_good _ h1
    · exact GT_good _ h2
    · exact GT_good _ h3
    · exact GT_good _ h4
    · exact GT_good _ h5
  · exact gC h6 w hw
theorem gS {own : String} {i : Nat} {y : MethodName} {bytes : ByteArray} {n : Nat} {r : Option FieldType} (h1 : Cond.methodLink own i y ∈ GT) (h2 : Cond.static y ∈ GT) (h3 : Cond.initialized y.cls ∈ GT) (h4 : Cond.code y bytes n r ∈ GT) : GoodIn GT (va_wsS own i y (Cond.code y bytes n r :: GT)) := fun w hw => by
  rcases List.mem_append.mp hw with hw | hw
  · simp only [List.mem_cons, List.not_mem_nil, or_false] at hw
    rcases hw with rfl | rfl | rfl
    · exact GT_good _ h1
    · exact GT_good _ h2
    · exact GT_good _ h3
  · exact gC h4 w hw
theorem rmax {a b : Nat} (ha : a < 2 ^ 31) (hb : b < 2 ^ 31) : (if nI a < nI b then nI b else nI a) = nI (max a b) := by
  by_cases h : a < b
  · rw [if_pos ((nI_ltI ha hb).mpr h), Nat.max_eq_right (Nat.le_of_lt h)]
  · rw [if_neg (fun q => h ((nI_ltI ha hb).mp q)), Nat.max_eq_left (Nat.le_of_not_lt h)]
theorem rmin {a b : Nat} (ha : a < 2 ^ 31) (hb : b < 2 ^ 31) : (if nI b < nI a then nI b else nI a) = nI (min a b) := by
  by_cases h : b < a
  · rw [if_pos ((nI_ltI hb ha).mpr h), Nat.min_eq_right (Nat.le_of_lt h)]
  · rw [if_neg (fun q => h ((nI_ltI hb ha).mp q)), Nat.min_eq_left (Nat.le_of_not_lt h)]
theorem ra_same {D : va_G} {cl : List vw_C} {tys : List (ClassId × FieldType)} {s : State} {cA cB : ClassId} {ty : FieldType} {i j : Nat} (hK : va_K D cl tys s) (h1 : tys[i]? = some (cA, ty)) (h2 : tys[j]? = some (cB, ty)) (hp : refKind ty = false) : cA = cB := by
  have q1 := (hK.2 i _ h1).2
  have q2 := (hK.2 j _ h2).2
  cases ty <;> first | exact Option.some.inj (q1.symm.trans q2) | (simp [refKind] at hp)
