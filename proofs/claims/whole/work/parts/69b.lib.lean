/-! the law's helpers: a table each -/
def mtO {α : Type} (o : Option Int32) (f : Int32 → α) (z : α) : α := match o with | some r => f r | none => z
theorem mtO_s {α : Type} {o : Option Int32} {r : Int32} {f : Int32 → α} {z : α} (h : o = some r) : mtO o f z = f r := by rw [h]; rfl
theorem mtO_n {α : Type} {o : Option Int32} {f : Int32 → α} {z : α} (h : o = none) : mtO o f z = z := by rw [h]; rfl
theorem gd_SW {own : String} {idx : Nat} {y : MethodName} {bytes : ByteArray} {n : Nat} {ret : Option FieldType} {hh : List (Nat × Nat × Nat × Nat)} (h1 : Cond.methodLink own idx y ∈ WA) (h2 : Cond.static y ∈ WA) (h4 : Cond.initialized y.cls ∈ WA) (h : Cond.codeWith y bytes n ret hh ∈ WA) : GoodIn WA (va_wsS own idx y (Cond.codeWith y bytes n ret hh :: WA)) :=
  gd_L (fun w hw => by simp only [List.mem_cons, List.not_mem_nil, or_false] at hw; rcases hw with rfl | rfl | rfl <;> assumption) (fun w hw => (List.mem_cons.mp hw).elim (fun e => e ▸ ⟨h, wa_g h⟩) (fun h2 => ⟨h2, wa_g h2⟩))
def w_Law_code : List Cond := Cond.codeWith y_Law_code b_Law_code 3 (some .int) [(0, 8, 11, 13)] :: WA
set_option maxRecDepth 20000 in theorem m_480 : Cond.codeWith y_Law_code b_Law_code 3 (some .int) [(0, 8, 11, 13)] ∈ WA := wa_m (List.mem_of_getElem? (i := 480) rfl) rfl
def w_Law_close : List Cond := Cond.codeWith y_Law_close b_Law_close 3 (some .int) [(0, 8, 11, 13)] :: WA
set_option maxRecDepth 20000 in theorem m_587 : Cond.codeWith y_Law_close b_Law_close 3 (some .int) [(0, 8, 11, 13)] ∈ WA := wa_m (List.mem_of_getElem? (i := 587) rfl) rfl
def w_Law_turn : List Cond := Cond.codeWith y_Law_turn b_Law_turn 4 (some .int) [(0, 9, 12, 22)] :: WA
set_option maxRecDepth 20000 in theorem m_601 : Cond.codeWith y_Law_turn b_Law_turn 4 (some .int) [(0, 9, 12, 22)] ∈ WA := wa_m (List.mem_of_getElem? (i := 601) rfl) rfl
def w_Law_black : List Cond := Cond.codeWith y_Law_black b_Law_black 4 (some .int) [(0, 16, 19, 28)] :: WA
set_option maxRecDepth 20000 in theorem m_633 : Cond.codeWith y_Law_black b_Law_black 4 (some .int) [(0, 16, 19, 28)] ∈ WA := wa_m (List.mem_of_getElem? (i := 633) rfl) rfl
set_option maxRecDepth 20000 in theorem m_481 : Cond.classLink "DotLinesLaw" 13 "java/lang/IllegalStateException" ∈ WA := wa_m (List.mem_of_getElem? (i := 481) rfl) rfl
set_option maxRecDepth 20000 in theorem m_602 : Cond.classLink "DotLinesLaw" 22 "java/lang/IllegalArgumentException" ∈ WA := wa_m (List.mem_of_getElem? (i := 602) rfl) rfl
set_option maxRecDepth 20000 in theorem m_634 : Cond.classLink "DotLinesLaw" 28 "java/lang/IndexOutOfBoundsException" ∈ WA := wa_m (List.mem_of_getElem? (i := 634) rfl) rfl
