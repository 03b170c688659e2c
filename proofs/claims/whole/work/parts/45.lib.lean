/-! rows for constructors -/
theorem ra_L {D : va_G} {cl : List vw_C} {tys : List (ClassId × FieldType)} {s : State} (h : va_K D cl tys s) (i j : Nat) {c1 c2 : ClassId} (hi : tys[i]? = some (c1, .long)) (hj : tys[j]? = some (c2, .long)) : c1 = c2 := by
  have h1 : s.vm.findClass ("[" ++ FieldType.long.toString) = some c1 := (h.2 i _ hi).2
  have h2 : s.vm.findClass ("[" ++ FieldType.long.toString) = some c2 := (h.2 j _ hj).2
  exact Option.some.inj (h1.symm.trans h2)
theorem ra_I {D : va_G} {cl : List vw_C} {tys : List (ClassId × FieldType)} {s : State} (h : va_K D cl tys s) (i j : Nat) {c1 c2 : ClassId} (hi : tys[i]? = some (c1, .int)) (hj : tys[j]? = some (c2, .int)) : c1 = c2 := by
  have h1 : s.vm.findClass ("[" ++ FieldType.int.toString) = some c1 := (h.2 i _ hi).2
  have h2 : s.vm.findClass ("[" ++ FieldType.int.toString) = some c2 := (h.2 j _ hj).2
  exact Option.some.inj (h1.symm.trans h2)
theorem ra_Z {D : va_G} {cl : List vw_C} {tys : List (ClassId × FieldType)} {s : State} (h : va_K D cl tys s) (i j : Nat) {c1 c2 : ClassId} (hi : tys[i]? = some (c1, .boolean)) (hj : tys[j]? = some (c2, .boolean)) : c1 = c2 := by
  have h1 : s.vm.findClass ("[" ++ FieldType.boolean.toString) = some c1 := (h.2 i _ hi).2
  have h2 : s.vm.findClass ("[" ++ FieldType.boolean.toString) = some c2 := (h.2 j _ hj).2
  exact Option.some.inj (h1.symm.trans h2)
theorem pn_e {wd : Nat} (h : wd ≤ 10000) : (nI wd + 63) / 64 = nI ((wd + 63) / 64) := by
  rw [show (63 : Int32) = nI 63 from rfl, nI_add, show (64 : Int32) = nI 64 from rfl, pk_div (by omega) (by decide) (by decide)]
theorem pn_n {wd : Nat} (h : wd ≤ 10000) : ¬ ((nI wd + 63) / 64) < 0 := by rw [pn_e h]; exact nI_pos (by omega)
theorem pn_c {wd : Nat} (h : wd ≤ 10000) : ((nI wd + 63) / 64).toNatClampNeg = (wd + 63) / 64 := by rw [pn_e h]; exact nI_clamp (by omega)
theorem cb_J : componentBytes .long = 8 := by decide +kernel
theorem cb_I : componentBytes .int = 4 := by decide +kernel
theorem cb_Z : componentBytes .boolean = 1 := by decide +kernel
