/-! what the four throws want of the tables -/
theorem tx_P {D : va_G} {cl : List vw_C} {ws : va_W} {H H1 : Heap} (h : va_P D cl ws H) (hk : ∀ q : Nat, q < H.size → H1[q]? = H[q]?) : va_P D cl ws H1 := fun k q hq => (h k q hq).kept (hk q.1 (h k q hq).lt)
theorem ot_oa_is : otW 56 isE = true := by decide +kernel
theorem ot_oa_ia : otW 91 iaE = true := by decide +kernel
theorem ot_oa_io : otW 107 ioE = true := by decide +kernel
theorem oa_of {ws : List Cond} (h : (ws.all fun w => !goodWord w || decide (w ∈ lw_tbl)) = true) : ∀ w ∈ ws, goodWord w = true → w ∈ WA := by
  intro w hw hg
  have h1 := List.all_eq_true.mp h w hw
  rw [hg] at h1
  simp only [Bool.not_true, Bool.false_or, decide_eq_true_eq] at h1
  exact List.mem_filter.mpr ⟨h1, hg⟩
theorem oa_is : ∀ w ∈ Bundle.ownAtoms "DotLines" 56 isE upE, goodWord w = true → w ∈ WA := oa_of (by decide +kernel)
theorem oa_ia : ∀ w ∈ Bundle.ownAtoms "DotLines" 91 iaE upE, goodWord w = true → w ∈ WA := oa_of (by decide +kernel)
theorem oa_io : ∀ w ∈ Bundle.ownAtoms "DotLines" 107 ioE upE, goodWord w = true → w ∈ WA := oa_of (by decide +kernel)
theorem m_51 : Cond.initialized "java/lang/IllegalStateException" ∈ WA := wa_m (List.mem_of_getElem? (i := 51) rfl) rfl
theorem m_52 : Cond.initialized "java/lang/IllegalArgumentException" ∈ WA := wa_m (List.mem_of_getElem? (i := 52) rfl) rfl
theorem m_53 : Cond.initialized "java/lang/IndexOutOfBoundsException" ∈ WA := wa_m (List.mem_of_getElem? (i := 53) rfl) rfl
set_option maxRecDepth 20000 in theorem m_517 : Cond.classLink "DotLines" 52 "java/lang/IllegalStateException" ∈ WA := wa_m (List.mem_of_getElem? (i := 517) rfl) rfl
set_option maxRecDepth 20000 in theorem m_607 : Cond.classLink "DotLines" 87 "java/lang/IllegalArgumentException" ∈ WA := wa_m (List.mem_of_getElem? (i := 607) rfl) rfl
set_option maxRecDepth 20000 in theorem m_639 : Cond.classLink "DotLines" 103 "java/lang/IndexOutOfBoundsException" ∈ WA := wa_m (List.mem_of_getElem? (i := 639) rfl) rfl
