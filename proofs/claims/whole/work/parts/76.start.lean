/-! the law's start: the tables, what the throws want, the classes' numbers -/
theorem ak {ty : FieldType} {args : Array Value} {s : State} (h : (Cond.arrayClass ty).before args s = true) (hr : ∀ cA : ClassId, s.vm.findClass ("[" ++ ty.toString) = some cA → va_RA s cA ty) : ∃ cA : ClassId, ArrOfT s cA ty ∧ va_RA s cA ty := by
  obtain ⟨cA, kA, comp, h1, h2, h3⟩ := Cond.arrayClass_spec h
  exact ⟨cA, fun n z => ⟨fun k h => (by cases h), kA, h2, comp, h3⟩, hr cA h1⟩
def nwF : List Cond := flatC (Jvm.Cond.and given_1 narrow_1)
def wS (nm : String) : Term := .static "DotLines$Words" nm "[I"
def tbOk (nm : String) (N : Nat) (f : Nat → Int32) : Bool := decide (Cond.arrayOf (wS nm) .int ∈ nwF) && (decide (Cond.eq (.length (wS nm)) (.int (Int32.ofNat N)) ∈ nwF) && (List.range N).all fun j => decide (Cond.eq (.elem (wS nm) (.int (Int32.ofNat j))) (.int (f j)) ∈ nwF))
theorem tb1_of {nm : String} {N : Nat} {f : Nat → Int32} {A : Nat → Prop} {args : Array Value} {s : State} (hN : N < 2 ^ 31) (hg : (Jvm.Cond.and given_1 narrow_1).before args s = true) (hok : tbOk nm N f = true) (hl : (Cond.laysStatic "DotLines$Words" nm "[I").before args s = true) (hini : (Cond.initialized "DotLines$Words").before args s = true) (hA : ∀ a : Nat, a < s.heap.size → ¬ A a) : tb1 nm N f A s := by
  have hs : ∀ w ∈ nwF, w.before args s = true := flat_of_before _ hg
  unfold tbOk at hok
  simp only [Bool.and_eq_true, decide_eq_true_eq, List.all_eq_true, List.mem_range] at hok
  obtain ⟨h1, h2, h3⟩ := hok
  obtain ⟨t, ht, hT⟩ := va_Tof (f := fun j => .int (f j)) hN (hs _ h1) (va_eqt (hs _ h2)) (fun j hj => va_eqt (hs _ (h3 j hj))) hA
  exact ⟨t, va_Zof hl hini ht hA, hT⟩
theorem tk_St : tbOk "STEPS" 10 tSt = true := by decide +kernel
theorem tk_WR : tbOk "WHITE_RESTS" 64 tWR = true := by decide +kernel
theorem tk_BR : tbOk "BLACK_RESTS" 64 tBR = true := by decide +kernel
theorem tk_WB : tbOk "WHITE_BLOCKS" 27 tWB = true := by decide +kernel
theorem tk_BB : tbOk "BLACK_BLOCKS" 27 tBB = true := by decide +kernel
theorem tk_LB : tbOk "LONG_BLOCKS" 13 tLB = true := by decide +kernel
theorem dc_in : ∀ w ∈ dcW, w ∈ lw_tbl ∧ w.onTables = true := by decide +kernel
theorem sg_in : ∀ q ∈ sgW, Cond.stringRef "DotLines" q.1 q.2 ∈ lw_tbl := by decide +kernel
theorem xz_in : Cond.isRef (.static Bundle.tN "UNASSIGNED_STACK" Bundle.steD) ∈ nwF ∧ Cond.isRef (.static Bundle.tN "SUPPRESSED_SENTINEL" Bundle.listD) ∈ nwF ∧ Cond.laysStatic Bundle.tN "UNASSIGNED_STACK" Bundle.steD ∈ lw_tbl ∧ Cond.laysStatic Bundle.tN "SUPPRESSED_SENTINEL" Bundle.listD ∈ lw_tbl := by decide +kernel
set_option maxRecDepth 20000 in
theorem ly_in : Cond.laysStatic "DotLines$Words" "STEPS" "[I" ∈ lw_tbl ∧ Cond.laysStatic "DotLines$Words" "WHITE_RESTS" "[I" ∈ lw_tbl ∧ Cond.laysStatic "DotLines$Words" "BLACK_RESTS" "[I" ∈ lw_tbl ∧ Cond.laysStatic "DotLines$Words" "WHITE_BLOCKS" "[I" ∈ lw_tbl ∧ Cond.laysStatic "DotLines$Words" "BLACK_BLOCKS" "[I" ∈ lw_tbl ∧ Cond.laysStatic "DotLines$Words" "LONG_BLOCKS" "[I" ∈ lw_tbl ∧ Cond.initialized "DotLines$Words" ∈ lw_tbl :=
  ⟨List.mem_of_getElem? (i := 204) rfl, List.mem_of_getElem? (i := 237) rfl, List.mem_of_getElem? (i := 235) rfl, List.mem_of_getElem? (i := 242) rfl, List.mem_of_getElem? (i := 246) rfl, List.mem_of_getElem? (i := 244) rfl, by decide +kernel⟩
theorem tb_start {A : Nat → Prop} {args : Array Value} {s : State} (hts : ∀ w ∈ lw_tbl, w.before args s = true) (hg : (Jvm.Cond.and given_1 narrow_1).before args s = true) (hA : ∀ a : Nat, a < s.heap.size → ¬ A a) : tb A s := by
  obtain ⟨l1, l2, l3, l4, l5, l6, l7⟩ := ly_in
  exact ⟨tb1_of (by decide) hg tk_St (hts _ l1) (hts _ l7) hA, tb1_of (by decide) hg tk_WR (hts _ l2) (hts _ l7) hA, tb1_of (by decide) hg tk_BR (hts _ l3) (hts _ l7) hA, tb1_of (by decide) hg tk_WB (hts _ l4) (hts _ l7) hA, tb1_of (by decide) hg tk_BB (hts _ l5) (hts _ l7) hA, tb1_of (by decide) hg tk_LB (hts _ l6) (hts _ l7) hA⟩
theorem sr_eval {own tx : String} {k : Nat} {args : Array Value} {s : State} (h : (Cond.stringRef own k tx).before args s = true) : ∃ a : Nat, vk_R own k tx a s := by
  cases hc : s.vm.findClass own with
  | none => simp [Cond.before, Cond.holds, Cond.value, hc] at h
  | some cur =>
    obtain ⟨k9, cf, i, a, -, -, -, -, -, h2⟩ := Cond.stringRef_spec hc h
    exact ⟨a, vk_R.of h h2⟩
theorem tw_start {A : Nat → Prop} {args : Array Value} {s : State} (hts : ∀ w ∈ lw_tbl, w.before args s = true) (hg : (Jvm.Cond.and given_1 narrow_1).before args s = true) (hA : ∀ a : Nat, a < s.heap.size → ¬ A a) : tw A s := by
  have hs : ∀ w ∈ nwF, w.before args s = true := flat_of_before _ hg
  obtain ⟨x1, x2, x3, x4⟩ := xz_in
  exact ⟨fun w hw => va_tabs (dc_in w hw).2 rfl (hts w (dc_in w hw).1), xz.of (hts _ x3) (hs _ x1) hA, xz.of (hts _ x4) (hs _ x2) hA, fun q hq => sr_eval (hts _ (sg_in q hq))⟩
theorem va_T.ofX {b L : Nat} {xs : Nat → Int32} {A : Nat → Prop} {s : State} {H : Heap} (h : va_X b L xs s H) (hA : ¬ A b) : va_T .int b L (fun j => .int (xs j)) A s H := by
  obtain ⟨scr, h1, h2, h3, h4, h5⟩ := h
  exact ⟨scr, h1, h2, h3, by omega, by rw [h4], h5, hA⟩
