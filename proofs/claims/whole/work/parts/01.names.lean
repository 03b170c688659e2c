-- ===== PART A: goes FIRST, ahead of the names: the tables' words, and 'selects' of the private methods out of them =====
/-- a private method of a class that the tables say can be made, by its rows of tables_1 -/
def lw_okq (q : MethodName × Nat) : Prop := (q.1.cls ≠ "java/lang/invoke/MethodHandle" ∧ q.1.cls ≠ "java/lang/invoke/VarHandle") ∧ Cond.instantiable q.1.cls q.2 ∈ tables_1 ∧ Cond.privateMethod q.1 ∈ tables_1 ∧ Cond.instanceMethod q.1 ∈ tables_1
theorem lw_p0 : lw_okq (⟨"DotLines$WordTree", "put", "(III)V"⟩, 2) := ⟨⟨by decide +kernel, by decide +kernel⟩, List.mem_of_getElem? (i := 161) (by decide +kernel), List.mem_of_getElem? (i := 175) (by decide +kernel), List.mem_of_getElem? (i := 176) (by decide +kernel)⟩
theorem lw_p1 : lw_okq (⟨"DotLines$WordTree", "grow", "(II)I"⟩, 2) := ⟨⟨by decide +kernel, by decide +kernel⟩, List.mem_of_getElem? (i := 161) (by decide +kernel), List.mem_of_getElem? (i := 186) (by decide +kernel), List.mem_of_getElem? (i := 187) (by decide +kernel)⟩
theorem lw_p2 : lw_okq (⟨"DotLines$WordTree", "set", "(III)V"⟩, 2) := ⟨⟨by decide +kernel, by decide +kernel⟩, List.mem_of_getElem? (i := 161) (by decide +kernel), List.mem_of_getElem? (i := 194) (by decide +kernel), List.mem_of_getElem? (i := 195) (by decide +kernel)⟩
theorem lw_p3 : lw_okq (⟨"DotLines$Reader", "readSteps", "()I"⟩, 10) := ⟨⟨by decide +kernel, by decide +kernel⟩, List.mem_of_getElem? (i := 153) (by decide +kernel), List.mem_of_getElem? (i := 357) (by decide +kernel), List.mem_of_getElem? (i := 358) (by decide +kernel)⟩
theorem lw_p4 : lw_okq (⟨"DotLines$Reader", "take", "(I)I"⟩, 10) := ⟨⟨by decide +kernel, by decide +kernel⟩, List.mem_of_getElem? (i := 153) (by decide +kernel), List.mem_of_getElem? (i := 361) (by decide +kernel), List.mem_of_getElem? (i := 362) (by decide +kernel)⟩
theorem lw_p5 : lw_okq (⟨"DotLines$Reader", "pass", "()I"⟩, 10) := ⟨⟨by decide +kernel, by decide +kernel⟩, List.mem_of_getElem? (i := 153) (by decide +kernel), List.mem_of_getElem? (i := 376) (by decide +kernel), List.mem_of_getElem? (i := 377) (by decide +kernel)⟩
theorem lw_p6 : lw_okq (⟨"DotLines$Reader", "faultAt", "(II)I"⟩, 10) := ⟨⟨by decide +kernel, by decide +kernel⟩, List.mem_of_getElem? (i := 153) (by decide +kernel), List.mem_of_getElem? (i := 380) (by decide +kernel), List.mem_of_getElem? (i := 381) (by decide +kernel)⟩
theorem lw_p7 : lw_okq (⟨"DotLines$Reader", "drawTo", "(I)V"⟩, 10) := ⟨⟨by decide +kernel, by decide +kernel⟩, List.mem_of_getElem? (i := 153) (by decide +kernel), List.mem_of_getElem? (i := 384) (by decide +kernel), List.mem_of_getElem? (i := 385) (by decide +kernel)⟩
theorem lw_p8 : lw_okq (⟨"DotLines$Reader", "across", "()I"⟩, 10) := ⟨⟨by decide +kernel, by decide +kernel⟩, List.mem_of_getElem? (i := 153) (by decide +kernel), List.mem_of_getElem? (i := 391) (by decide +kernel), List.mem_of_getElem? (i := 392) (by decide +kernel)⟩
theorem lw_p9 : lw_okq (⟨"DotLines$Reader", "runFrom", "(IZ)I"⟩, 10) := ⟨⟨by decide +kernel, by decide +kernel⟩, List.mem_of_getElem? (i := 153) (by decide +kernel), List.mem_of_getElem? (i := 395) (by decide +kernel), List.mem_of_getElem? (i := 396) (by decide +kernel)⟩
theorem lw_p10 : lw_okq (⟨"DotLines$Reader", "shift", "(I)I"⟩, 10) := ⟨⟨by decide +kernel, by decide +kernel⟩, List.mem_of_getElem? (i := 153) (by decide +kernel), List.mem_of_getElem? (i := 399) (by decide +kernel), List.mem_of_getElem? (i := 400) (by decide +kernel)⟩
theorem lw_p11 : lw_okq (⟨"DotLines$Line", "addChanges", "(IJ)V"⟩, 4) := ⟨⟨by decide +kernel, by decide +kernel⟩, List.mem_of_getElem? (i := 58) (by decide +kernel), List.mem_of_getElem? (i := 407) (by decide +kernel), List.mem_of_getElem? (i := 408) (by decide +kernel)⟩
theorem lw_p12 : lw_okq (⟨"DotLines$Coder", "addSteps", "()V"⟩, 11) := ⟨⟨by decide +kernel, by decide +kernel⟩, List.mem_of_getElem? (i := 35) (by decide +kernel), List.mem_of_getElem? (i := 457) (by decide +kernel), List.mem_of_getElem? (i := 458) (by decide +kernel)⟩
theorem lw_p13 : lw_okq (⟨"DotLines$Coder", "addStep", "(II)V"⟩, 11) := ⟨⟨by decide +kernel, by decide +kernel⟩, List.mem_of_getElem? (i := 35) (by decide +kernel), List.mem_of_getElem? (i := 465) (by decide +kernel), List.mem_of_getElem? (i := 466) (by decide +kernel)⟩
theorem lw_p14 : lw_okq (⟨"DotLines$Coder", "addWord", "(I)V"⟩, 11) := ⟨⟨by decide +kernel, by decide +kernel⟩, List.mem_of_getElem? (i := 35) (by decide +kernel), List.mem_of_getElem? (i := 470) (by decide +kernel), List.mem_of_getElem? (i := 471) (by decide +kernel)⟩
theorem lw_p15 : lw_okq (⟨"DotLines$Coder", "addRun", "(IZ)V"⟩, 11) := ⟨⟨by decide +kernel, by decide +kernel⟩, List.mem_of_getElem? (i := 35) (by decide +kernel), List.mem_of_getElem? (i := 478) (by decide +kernel), List.mem_of_getElem? (i := 479) (by decide +kernel)⟩
def lw_privs_1 : List (MethodName × Nat) := [(⟨"DotLines$WordTree", "put", "(III)V"⟩, 2), (⟨"DotLines$WordTree", "grow", "(II)I"⟩, 2), (⟨"DotLines$WordTree", "set", "(III)V"⟩, 2), (⟨"DotLines$Reader", "readSteps", "()I"⟩, 10), (⟨"DotLines$Reader", "take", "(I)I"⟩, 10), (⟨"DotLines$Reader", "pass", "()I"⟩, 10), (⟨"DotLines$Reader", "faultAt", "(II)I"⟩, 10), (⟨"DotLines$Reader", "drawTo", "(I)V"⟩, 10), (⟨"DotLines$Reader", "across", "()I"⟩, 10), (⟨"DotLines$Reader", "runFrom", "(IZ)I"⟩, 10), (⟨"DotLines$Reader", "shift", "(I)I"⟩, 10), (⟨"DotLines$Line", "addChanges", "(IJ)V"⟩, 4), (⟨"DotLines$Coder", "addSteps", "()V"⟩, 11), (⟨"DotLines$Coder", "addStep", "(II)V"⟩, 11), (⟨"DotLines$Coder", "addWord", "(I)V"⟩, 11), (⟨"DotLines$Coder", "addRun", "(IZ)V"⟩, 11)]
theorem lw_r1 : ∀ q ∈ lw_privs_1, lw_okq q := List.forall_mem_cons.mpr ⟨lw_p0, List.forall_mem_cons.mpr ⟨lw_p1, List.forall_mem_cons.mpr ⟨lw_p2, List.forall_mem_cons.mpr ⟨lw_p3, List.forall_mem_cons.mpr ⟨lw_p4, List.forall_mem_cons.mpr ⟨lw_p5, List.forall_mem_cons.mpr ⟨lw_p6, List.forall_mem_cons.mpr ⟨lw_p7, List.forall_mem_cons.mpr ⟨lw_p8, List.forall_mem_cons.mpr ⟨lw_p9, List.forall_mem_cons.mpr ⟨lw_p10, List.forall_mem_cons.mpr ⟨lw_p11, List.forall_mem_cons.mpr ⟨lw_p12, List.forall_mem_cons.mpr ⟨lw_p13, List.forall_mem_cons.mpr ⟨lw_p14, List.forall_mem_cons.mpr ⟨lw_p15, fun _ h => absurd h List.not_mem_nil⟩⟩⟩⟩⟩⟩⟩⟩⟩⟩⟩⟩⟩⟩⟩⟩
theorem lw_p16 : lw_okq (⟨"java/lang/Throwable", "fillInStackTrace", "(I)Ljava/lang/Throwable;"⟩, 6) := ⟨⟨by decide +kernel, by decide +kernel⟩, List.mem_of_getElem? (i := 522) (by decide +kernel), List.mem_of_getElem? (i := 520) (by decide +kernel), List.mem_of_getElem? (i := 521) (by decide +kernel)⟩
theorem lw_p17 : lw_okq (⟨"DotLinesModel", "lineWords", "()V"⟩, 30) := ⟨⟨by decide +kernel, by decide +kernel⟩, List.mem_of_getElem? (i := 622) (by decide +kernel), List.mem_of_getElem? (i := 735) (by decide +kernel), List.mem_of_getElem? (i := 736) (by decide +kernel)⟩
theorem lw_p18 : lw_okq (⟨"DotLinesModel", "dotAfter", "([ZIZ)I"⟩, 30) := ⟨⟨by decide +kernel, by decide +kernel⟩, List.mem_of_getElem? (i := 622) (by decide +kernel), List.mem_of_getElem? (i := 739) (by decide +kernel), List.mem_of_getElem? (i := 740) (by decide +kernel)⟩
theorem lw_p19 : lw_okq (⟨"DotLinesModel", "changeAfter", "([ZIZ)I"⟩, 30) := ⟨⟨by decide +kernel, by decide +kernel⟩, List.mem_of_getElem? (i := 622) (by decide +kernel), List.mem_of_getElem? (i := 743) (by decide +kernel), List.mem_of_getElem? (i := 744) (by decide +kernel)⟩
theorem lw_p20 : lw_okq (⟨"DotLinesModel", "word", "(I)V"⟩, 30) := ⟨⟨by decide +kernel, by decide +kernel⟩, List.mem_of_getElem? (i := 622) (by decide +kernel), List.mem_of_getElem? (i := 747) (by decide +kernel), List.mem_of_getElem? (i := 748) (by decide +kernel)⟩
theorem lw_p21 : lw_okq (⟨"DotLinesModel", "run", "(IZ)V"⟩, 30) := ⟨⟨by decide +kernel, by decide +kernel⟩, List.mem_of_getElem? (i := 622) (by decide +kernel), List.mem_of_getElem? (i := 751) (by decide +kernel), List.mem_of_getElem? (i := 752) (by decide +kernel)⟩
theorem lw_p22 : lw_okq (⟨"DotLinesModel", "take", "()V"⟩, 30) := ⟨⟨by decide +kernel, by decide +kernel⟩, List.mem_of_getElem? (i := 622) (by decide +kernel), List.mem_of_getElem? (i := 755) (by decide +kernel), List.mem_of_getElem? (i := 756) (by decide +kernel)⟩
theorem lw_p23 : lw_okq (⟨"DotLinesModel", "bytesOut", "()I"⟩, 30) := ⟨⟨by decide +kernel, by decide +kernel⟩, List.mem_of_getElem? (i := 622) (by decide +kernel), List.mem_of_getElem? (i := 763) (by decide +kernel), List.mem_of_getElem? (i := 764) (by decide +kernel)⟩
theorem lw_p24 : lw_okq (⟨"DotLinesModel", "byteOut", "(J)I"⟩, 30) := ⟨⟨by decide +kernel, by decide +kernel⟩, List.mem_of_getElem? (i := 622) (by decide +kernel), List.mem_of_getElem? (i := 776) (by decide +kernel), List.mem_of_getElem? (i := 777) (by decide +kernel)⟩
theorem lw_p25 : lw_okq (⟨"DotLinesModel", "begin", "()V"⟩, 30) := ⟨⟨by decide +kernel, by decide +kernel⟩, List.mem_of_getElem? (i := 622) (by decide +kernel), List.mem_of_getElem? (i := 789) (by decide +kernel), List.mem_of_getElem? (i := 790) (by decide +kernel)⟩
theorem lw_p26 : lw_okq (⟨"DotLinesModel", "piece", "(IZ)I"⟩, 30) := ⟨⟨by decide +kernel, by decide +kernel⟩, List.mem_of_getElem? (i := 622) (by decide +kernel), List.mem_of_getElem? (i := 805) (by decide +kernel), List.mem_of_getElem? (i := 806) (by decide +kernel)⟩
theorem lw_p27 : lw_okq (⟨"DotLinesModel", "mode", "(I)I"⟩, 30) := ⟨⟨by decide +kernel, by decide +kernel⟩, List.mem_of_getElem? (i := 622) (by decide +kernel), List.mem_of_getElem? (i := 809) (by decide +kernel), List.mem_of_getElem? (i := 810) (by decide +kernel)⟩
theorem lw_p28 : lw_okq (⟨"DotLinesModel", "fault", "(II)V"⟩, 30) := ⟨⟨by decide +kernel, by decide +kernel⟩, List.mem_of_getElem? (i := 622) (by decide +kernel), List.mem_of_getElem? (i := 813) (by decide +kernel), List.mem_of_getElem? (i := 814) (by decide +kernel)⟩
theorem lw_p29 : lw_okq (⟨"DotLinesModel", "bit", "(I)I"⟩, 30) := ⟨⟨by decide +kernel, by decide +kernel⟩, List.mem_of_getElem? (i := 622) (by decide +kernel), List.mem_of_getElem? (i := 817) (by decide +kernel), List.mem_of_getElem? (i := 818) (by decide +kernel)⟩
theorem lw_p30 : lw_okq (⟨"DotLinesModel", "begins", "([III)Z"⟩, 30) := ⟨⟨by decide +kernel, by decide +kernel⟩, List.mem_of_getElem? (i := 622) (by decide +kernel), List.mem_of_getElem? (i := 824) (by decide +kernel), List.mem_of_getElem? (i := 825) (by decide +kernel)⟩
theorem lw_p31 : lw_okq (⟨"DotLinesModel", "end", "()V"⟩, 30) := ⟨⟨by decide +kernel, by decide +kernel⟩, List.mem_of_getElem? (i := 622) (by decide +kernel), List.mem_of_getElem? (i := 828) (by decide +kernel), List.mem_of_getElem? (i := 829) (by decide +kernel)⟩
def lw_privs_2 : List (MethodName × Nat) := [(⟨"java/lang/Throwable", "fillInStackTrace", "(I)Ljava/lang/Throwable;"⟩, 6), (⟨"DotLinesModel", "lineWords", "()V"⟩, 30), (⟨"DotLinesModel", "dotAfter", "([ZIZ)I"⟩, 30), (⟨"DotLinesModel", "changeAfter", "([ZIZ)I"⟩, 30), (⟨"DotLinesModel", "word", "(I)V"⟩, 30), (⟨"DotLinesModel", "run", "(IZ)V"⟩, 30), (⟨"DotLinesModel", "take", "()V"⟩, 30), (⟨"DotLinesModel", "bytesOut", "()I"⟩, 30), (⟨"DotLinesModel", "byteOut", "(J)I"⟩, 30), (⟨"DotLinesModel", "begin", "()V"⟩, 30), (⟨"DotLinesModel", "piece", "(IZ)I"⟩, 30), (⟨"DotLinesModel", "mode", "(I)I"⟩, 30), (⟨"DotLinesModel", "fault", "(II)V"⟩, 30), (⟨"DotLinesModel", "bit", "(I)I"⟩, 30), (⟨"DotLinesModel", "begins", "([III)Z"⟩, 30), (⟨"DotLinesModel", "end", "()V"⟩, 30)]
theorem lw_r2 : ∀ q ∈ lw_privs_2, lw_okq q := List.forall_mem_cons.mpr ⟨lw_p16, List.forall_mem_cons.mpr ⟨lw_p17, List.forall_mem_cons.mpr ⟨lw_p18, List.forall_mem_cons.mpr ⟨lw_p19, List.forall_mem_cons.mpr ⟨lw_p20, List.forall_mem_cons.mpr ⟨lw_p21, List.forall_mem_cons.mpr ⟨lw_p22, List.forall_mem_cons.mpr ⟨lw_p23, List.forall_mem_cons.mpr ⟨lw_p24, List.forall_mem_cons.mpr ⟨lw_p25, List.forall_mem_cons.mpr ⟨lw_p26, List.forall_mem_cons.mpr ⟨lw_p27, List.forall_mem_cons.mpr ⟨lw_p28, List.forall_mem_cons.mpr ⟨lw_p29, List.forall_mem_cons.mpr ⟨lw_p30, List.forall_mem_cons.mpr ⟨lw_p31, fun _ h => absurd h List.not_mem_nil⟩⟩⟩⟩⟩⟩⟩⟩⟩⟩⟩⟩⟩⟩⟩⟩
theorem lw_p32 : lw_okq (⟨"DotLinesModel", "fill", "(IIZ)V"⟩, 30) := ⟨⟨by decide +kernel, by decide +kernel⟩, List.mem_of_getElem? (i := 622) (by decide +kernel), List.mem_of_getElem? (i := 832) (by decide +kernel), List.mem_of_getElem? (i := 833) (by decide +kernel)⟩
theorem lw_p33 : lw_okq (⟨"DotLinesModel", "readRun", "(IZ)I"⟩, 30) := ⟨⟨by decide +kernel, by decide +kernel⟩, List.mem_of_getElem? (i := 622) (by decide +kernel), List.mem_of_getElem? (i := 836) (by decide +kernel), List.mem_of_getElem? (i := 837) (by decide +kernel)⟩
def lw_privs_3 : List (MethodName × Nat) := [(⟨"DotLinesModel", "fill", "(IIZ)V"⟩, 30), (⟨"DotLinesModel", "readRun", "(IZ)I"⟩, 30)]
theorem lw_r3 : ∀ q ∈ lw_privs_3, lw_okq q := List.forall_mem_cons.mpr ⟨lw_p32, List.forall_mem_cons.mpr ⟨lw_p33, fun _ h => absurd h List.not_mem_nil⟩⟩
def lw_privs : List (MethodName × Nat) := lw_privs_1 ++ (lw_privs_2 ++ (lw_privs_3))
def lw_tbl : List Cond := k2_sels lw_privs ++ tables_1
theorem lw_privs_ok : ∀ q ∈ lw_privs, lw_okq q := by
  show ∀ q ∈ lw_privs_1 ++ (lw_privs_2 ++ (lw_privs_3)), lw_okq q
  exact List.forall_mem_append.mpr ⟨lw_r1, List.forall_mem_append.mpr ⟨lw_r2, lw_r3⟩⟩
-- ===== end of PART A =====
/-- all the words of the tables that stay -/
def WA : List Cond := lw_tbl.filter goodWord
theorem wa_m {w : Cond} (h : w ∈ lw_tbl) (g : goodWord w = true) : w ∈ WA := List.mem_filter.mpr ⟨h, g⟩
theorem wa_t {w : Cond} (h : w ∈ WA) : w ∈ lw_tbl := (List.mem_filter.mp h).1
theorem wa_g {w : Cond} (h : w ∈ WA) : (w.onTables && w.keeps) = true ∨ ∃ ty, w = .arrayClass ty := good_of_word (List.mem_filter.mp h).2
theorem gd_I {y : MethodName} {bytes : ByteArray} {n : Nat} {ret : Option FieldType} (h : Cond.code y bytes n ret ∈ WA) : GoodIn WA (Cond.code y bytes n ret :: WA) := fun w hw => (List.mem_cons.mp hw).elim (fun e => e ▸ ⟨h, wa_g h⟩) (fun h2 => ⟨h2, wa_g h2⟩)
theorem gd_L {a b : List Cond} (ha : ∀ w ∈ a, w ∈ WA) (hb : GoodIn WA b) : GoodIn WA (a ++ b) := fun w h => (List.mem_append.mp h).elim (fun h => ⟨ha w h, wa_g (ha w h)⟩) (hb w)
theorem gd_V {own C : String} {idx : Nat} {y : MethodName} {bytes : ByteArray} {n : Nat} {ret : Option FieldType} (h1 : Cond.methodLink own idx y ∈ WA) (h2 : Cond.instanceMethod y ∈ WA) (h3 : Cond.selects C y y ∈ WA) (h4 : Cond.initialized C ∈ WA) (h : Cond.code y bytes n ret ∈ WA) : GoodIn WA (wsV own idx C y (Cond.code y bytes n ret :: WA)) :=
  gd_L (fun w hw => by simp only [List.mem_cons, List.not_mem_nil, or_false] at hw; rcases hw with rfl | rfl | rfl | rfl <;> assumption) (gd_I h)
theorem gd_S {own : String} {idx : Nat} {y : MethodName} {bytes : ByteArray} {n : Nat} {ret : Option FieldType} (h1 : Cond.methodLink own idx y ∈ WA) (h2 : Cond.static y ∈ WA) (h4 : Cond.initialized y.cls ∈ WA) (h : Cond.code y bytes n ret ∈ WA) : GoodIn WA (va_wsS own idx y (Cond.code y bytes n ret :: WA)) :=
  gd_L (fun w hw => by simp only [List.mem_cons, List.not_mem_nil, or_false] at hw; rcases hw with rfl | rfl | rfl <;> assumption) (gd_I h)
def R_Bits : String := "DotLines$Bits"
def F_Bits : u_T := fun k => match k with
  | 0 => ("DotLines$Bits", "parts", "[J", true)
  | _ => ("DotLines$Bits", "count", "I", false)
def t_Bits : Nat → FieldType := fun k => match k with
  | 0 => .array .long
  | _ => .int
theorem n_Bits : ∀ a, a < 2 → ∀ b, b < 2 → a ≠ b → (F_Bits a).2.1 ≠ (F_Bits b).2.1 := by decide +kernel
theorem t_Bits_ok : ∀ k, k < 2 → parseFieldDescriptor (F_Bits k).2.2.1 = some (t_Bits k) := by decide +kernel
theorem i_Bits : ∀ w ∈ u_ws R_Bits F_Bits 2, w ∈ WA := by decide +kernel
def R_Coder : String := "DotLines$Coder"
def F_Coder : u_T := fun k => match k with
  | 0 => ("DotLines$Coder", "output", "LDotLines$Bits;", true)
  | 1 => ("DotLines$Coder", "width", "I", true)
  | 2 => ("DotLines$Coder", "spot", "LDotLines$Spot;", true)
  | 3 => ("DotLines$Coder", "made", "LDotLines$Line;", false)
  | 4 => ("DotLines$Coder", "above", "LDotLines$Line;", false)
  | 5 => ("DotLines$Coder", "closed", "Z", false)
  | 6 => ("DotLines$Coder", "lines", "I", false)
  | 7 => ("DotLines$Coder", "passes", "I", false)
  | 8 => ("DotLines$Coder", "shifts", "I", false)
  | 9 => ("DotLines$Coder", "acrosses", "I", false)
  | _ => ("DotLines$Coder", "fits", "Z", false)
def t_Coder : Nat → FieldType := fun k => match k with
  | 0 => .object "DotLines$Bits"
  | 1 => .int
  | 2 => .object "DotLines$Spot"
  | 3 => .object "DotLines$Line"
  | 4 => .object "DotLines$Line"
  | 5 => .boolean
  | 6 => .int
  | 7 => .int
  | 8 => .int
  | 9 => .int
  | _ => .boolean
theorem n_Coder : ∀ a, a < 11 → ∀ b, b < 11 → a ≠ b → (F_Coder a).2.1 ≠ (F_Coder b).2.1 := by decide +kernel
theorem t_Coder_ok : ∀ k, k < 11 → parseFieldDescriptor (F_Coder k).2.2.1 = some (t_Coder k) := by decide +kernel
theorem i_Coder : ∀ w ∈ u_ws R_Coder F_Coder 11, w ∈ WA := by decide +kernel
def R_Line : String := "DotLines$Line"
def F_Line : u_T := fun k => match k with
  | 0 => ("DotLines$Line", "width", "I", true)
  | 1 => ("DotLines$Line", "parts", "[J", true)
  | 2 => ("DotLines$Line", "changes", "[I", true)
  | _ => ("DotLines$Line", "changeCount", "I", false)
def t_Line : Nat → FieldType := fun k => match k with
  | 0 => .int
  | 1 => .array .long
  | 2 => .array .int
  | _ => .int
theorem n_Line : ∀ a, a < 4 → ∀ b, b < 4 → a ≠ b → (F_Line a).2.1 ≠ (F_Line b).2.1 := by decide +kernel
theorem t_Line_ok : ∀ k, k < 4 → parseFieldDescriptor (F_Line k).2.2.1 = some (t_Line k) := by decide +kernel
theorem i_Line : ∀ w ∈ u_ws R_Line F_Line 4, w ∈ WA := by decide +kernel
def R_Reader : String := "DotLines$Reader"
def F_Reader : u_T := fun k => match k with
  | 0 => ("DotLines$Reader", "input", "LDotLines$Bits;", true)
  | 1 => ("DotLines$Reader", "tree", "LDotLines$WordTree;", true)
  | 2 => ("DotLines$Reader", "width", "I", true)
  | 3 => ("DotLines$Reader", "spot", "LDotLines$Spot;", true)
  | 4 => ("DotLines$Reader", "above", "LDotLines$Line;", false)
  | 5 => ("DotLines$Reader", "fresh", "LDotLines$Line;", false)
  | 6 => ("DotLines$Reader", "lines", "I", false)
  | 7 => ("DotLines$Reader", "at", "I", false)
  | 8 => ("DotLines$Reader", "wordAt", "I", false)
  | _ => ("DotLines$Reader", "answer", "I", false)
def t_Reader : Nat → FieldType := fun k => match k with
  | 0 => .object "DotLines$Bits"
  | 1 => .object "DotLines$WordTree"
  | 2 => .int
  | 3 => .object "DotLines$Spot"
  | 4 => .object "DotLines$Line"
  | 5 => .object "DotLines$Line"
  | 6 => .int
  | 7 => .int
  | 8 => .int
  | _ => .int
theorem n_Reader : ∀ a, a < 10 → ∀ b, b < 10 → a ≠ b → (F_Reader a).2.1 ≠ (F_Reader b).2.1 := by decide +kernel
theorem t_Reader_ok : ∀ k, k < 10 → parseFieldDescriptor (F_Reader k).2.2.1 = some (t_Reader k) := by decide +kernel
theorem i_Reader : ∀ w ∈ u_ws R_Reader F_Reader 10, w ∈ WA := by decide +kernel
def R_Spot : String := "DotLines$Spot"
def F_Spot : u_T := fun k => match k with
  | 0 => ("DotLines$Spot", "above", "LDotLines$Line;", false)
  | 1 => ("DotLines$Spot", "firstRight", "I", false)
  | 2 => ("DotLines$Spot", "a", "I", false)
  | 3 => ("DotLines$Spot", "inBlack", "Z", false)
  | 4 => ("DotLines$Spot", "b1", "I", false)
  | _ => ("DotLines$Spot", "b2", "I", false)
def t_Spot : Nat → FieldType := fun k => match k with
  | 0 => .object "DotLines$Line"
  | 1 => .int
  | 2 => .int
  | 3 => .boolean
  | 4 => .int
  | _ => .int
theorem n_Spot : ∀ a, a < 6 → ∀ b, b < 6 → a ≠ b → (F_Spot a).2.1 ≠ (F_Spot b).2.1 := by decide +kernel
theorem t_Spot_ok : ∀ k, k < 6 → parseFieldDescriptor (F_Spot k).2.2.1 = some (t_Spot k) := by decide +kernel
theorem i_Spot : ∀ w ∈ u_ws R_Spot F_Spot 6, w ∈ WA := by decide +kernel
def R_Tree : String := "DotLines$WordTree"
def F_Tree : u_T := fun k => match k with
  | 0 => ("DotLines$WordTree", "branches", "[I", true)
  | _ => ("DotLines$WordTree", "nodes", "I", false)
def t_Tree : Nat → FieldType := fun k => match k with
  | 0 => .array .int
  | _ => .int
theorem n_Tree : ∀ a, a < 2 → ∀ b, b < 2 → a ≠ b → (F_Tree a).2.1 ≠ (F_Tree b).2.1 := by decide +kernel
theorem t_Tree_ok : ∀ k, k < 2 → parseFieldDescriptor (F_Tree k).2.2.1 = some (t_Tree k) := by decide +kernel
theorem i_Tree : ∀ w ∈ u_ws R_Tree F_Tree 2, w ∈ WA := by decide +kernel
def R_Words : String := "DotLines$Words"
def R_DL : String := "DotLines"
def F_DL : u_T := fun k => match k with
  | 0 => ("DotLines", "width", "I", true)
  | 1 => ("DotLines", "coder", "LDotLines$Coder;", true)
  | _ => ("DotLines", "reader", "LDotLines$Reader;", true)
def t_DL : Nat → FieldType := fun k => match k with
  | 0 => .int
  | 1 => .object "DotLines$Coder"
  | _ => .object "DotLines$Reader"
theorem n_DL : ∀ a, a < 3 → ∀ b, b < 3 → a ≠ b → (F_DL a).2.1 ≠ (F_DL b).2.1 := by decide +kernel
theorem t_DL_ok : ∀ k, k < 3 → parseFieldDescriptor (F_DL k).2.2.1 = some (t_DL k) := by decide +kernel
theorem i_DL : ∀ w ∈ u_ws R_DL F_DL 3, w ∈ WA := by decide +kernel
def R_Model : String := "DotLinesModel"
def F_Model : u_T := fun k => match k with
  | 0 => ("DotLinesModel", "whiteRests", "[I", true)
  | 1 => ("DotLinesModel", "blackRests", "[I", true)
  | 2 => ("DotLinesModel", "whiteBlocks", "[I", true)
  | 3 => ("DotLinesModel", "blackBlocks", "[I", true)
  | 4 => ("DotLinesModel", "blocks", "[I", true)
  | 5 => ("DotLinesModel", "modes", "[I", true)
  | 6 => ("DotLinesModel", "thrown", "I", false)
  | 7 => ("DotLinesModel", "width", "I", true)
  | 8 => ("DotLinesModel", "line", "[Z", true)
  | 9 => ("DotLinesModel", "above", "[Z", true)
  | 10 => ("DotLinesModel", "out", "[Z", true)
  | 11 => ("DotLinesModel", "bits", "I", false)
  | 12 => ("DotLinesModel", "closed", "Z", false)
  | 13 => ("DotLinesModel", "coded", "I", false)
  | 14 => ("DotLinesModel", "passes", "I", false)
  | 15 => ("DotLinesModel", "shifts", "I", false)
  | 16 => ("DotLinesModel", "acrosses", "I", false)
  | 17 => ("DotLinesModel", "next", "[Z", true)
  | 18 => ("DotLinesModel", "nextBits", "I", false)
  | 19 => ("DotLinesModel", "words0", "I", false)
  | 20 => ("DotLinesModel", "words1", "I", false)
  | 21 => ("DotLinesModel", "words2", "I", false)
  | 22 => ("DotLinesModel", "in", "[I", true)
  | 23 => ("DotLinesModel", "given", "I", false)
  | 24 => ("DotLinesModel", "readLine", "[Z", true)
  | 25 => ("DotLinesModel", "readAbove", "[Z", true)
  | 26 => ("DotLinesModel", "lines", "I", false)
  | 27 => ("DotLinesModel", "at", "I", false)
  | 28 => ("DotLinesModel", "state", "I", false)
  | _ => ("DotLinesModel", "turns", "Z", false)
def t_Model : Nat → FieldType := fun k => match k with
  | 0 => .array .int
  | 1 => .array .int
  | 2 => .array .int
  | 3 => .array .int
  | 4 => .array .int
  | 5 => .array .int
  | 6 => .int
  | 7 => .int
  | 8 => .array .boolean
  | 9 => .array .boolean
  | 10 => .array .boolean
  | 11 => .int
  | 12 => .boolean
  | 13 => .int
  | 14 => .int
  | 15 => .int
  | 16 => .int
  | 17 => .array .boolean
  | 18 => .int
  | 19 => .int
  | 20 => .int
  | 21 => .int
  | 22 => .array .int
  | 23 => .int
  | 24 => .array .boolean
  | 25 => .array .boolean
  | 26 => .int
  | 27 => .int
  | 28 => .int
  | _ => .boolean
theorem n_Model : ∀ a, a < 30 → ∀ b, b < 30 → a ≠ b → (F_Model a).2.1 ≠ (F_Model b).2.1 := by decide +kernel
theorem t_Model_ok : ∀ k, k < 30 → parseFieldDescriptor (F_Model k).2.2.1 = some (t_Model k) := by decide +kernel
theorem i_Model : ∀ w ∈ u_ws R_Model F_Model 30, w ∈ WA := by decide +kernel
def R_Law : String := "DotLinesLaw"
def R_Integer : String := "java/lang/Integer"
def R_Long : String := "java/lang/Long"
def R_Arrays : String := "java/util/Arrays"
abbrev classes : List vw_C := [(R_Bits, F_Bits, 2), (R_Coder, F_Coder, 11), (R_Line, F_Line, 4), (R_Reader, F_Reader, 10), (R_Spot, F_Spot, 6), (R_Tree, F_Tree, 2), (R_DL, F_DL, 3), (R_Model, F_Model, 30)]
abbrev b_DL_init : ByteArray := prog_1_method_1_code
def y_DL_init : MethodName := ⟨R_DL, "<init>", "(I)V"⟩
def w_DL_init : List Cond := Cond.code y_DL_init b_DL_init 2 none :: WA
abbrev b_Coder_init : ByteArray := prog_3_method_1_code
def y_Coder_init : MethodName := ⟨R_Coder, "<init>", "(I)V"⟩
def w_Coder_init : List Cond := Cond.code y_Coder_init b_Coder_init 2 none :: WA
abbrev b_Bits_init : ByteArray := prog_2_method_1_code
def y_Bits_init : MethodName := ⟨R_Bits, "<init>", "()V"⟩
def w_Bits_init : List Cond := Cond.code y_Bits_init b_Bits_init 1 none :: WA
abbrev b_Line_init : ByteArray := prog_4_method_1_code
def y_Line_init : MethodName := ⟨R_Line, "<init>", "(I)V"⟩
def w_Line_init : List Cond := Cond.code y_Line_init b_Line_init 2 none :: WA
abbrev b_Spot_init : ByteArray := prog_6_method_1_code
def y_Spot_init : MethodName := ⟨R_Spot, "<init>", "(LDotLines$Line;)V"⟩
def w_Spot_init : List Cond := Cond.code y_Spot_init b_Spot_init 2 none :: WA
abbrev b_Reader_init : ByteArray := prog_5_method_1_code
def y_Reader_init : MethodName := ⟨R_Reader, "<init>", "(I)V"⟩
def w_Reader_init : List Cond := Cond.code y_Reader_init b_Reader_init 2 none :: WA
abbrev b_Tree_init : ByteArray := prog_7_method_1_code
def y_Tree_init : MethodName := ⟨R_Tree, "<init>", "()V"⟩
def w_Tree_init : List Cond := Cond.code y_Tree_init b_Tree_init 2 none :: WA
abbrev b_Words_step : ByteArray := prog_8_method_3_code
def y_Words_step : MethodName := ⟨R_Words, "step", "(I)I"⟩
def w_Words_step : List Cond := Cond.code y_Words_step b_Words_step 1 (some .int) :: WA
abbrev b_Words_at : ByteArray := prog_8_method_6_code
def y_Words_at : MethodName := ⟨R_Words, "at", "([II)I"⟩
def w_Words_at : List Cond := Cond.code y_Words_at b_Words_at 2 (some .int) :: WA
abbrev b_Tree_put : ByteArray := prog_7_method_5_code
def y_Tree_put : MethodName := ⟨R_Tree, "put", "(III)V"⟩
def w_Tree_put : List Cond := Cond.code y_Tree_put b_Tree_put 6 none :: WA
abbrev b_Words_length : ByteArray := prog_8_method_2_code
def y_Words_length : MethodName := ⟨R_Words, "length", "(I)I"⟩
def w_Words_length : List Cond := Cond.code y_Words_length b_Words_length 1 (some .int) :: WA
abbrev b_Integer_numberOfLeadingZeros : ByteArray := prog_15_method_47_code
def y_Integer_numberOfLeadingZeros : MethodName := ⟨R_Integer, "numberOfLeadingZeros", "(I)I"⟩
def w_Integer_numberOfLeadingZeros : List Cond := Cond.code y_Integer_numberOfLeadingZeros b_Integer_numberOfLeadingZeros 2 (some .int) :: WA
abbrev b_Tree_grow : ByteArray := prog_7_method_6_code
def y_Tree_grow : MethodName := ⟨R_Tree, "grow", "(II)I"⟩
def w_Tree_grow : List Cond := Cond.code y_Tree_grow b_Tree_grow 3 (some .int) :: WA
abbrev b_Tree_follow : ByteArray := prog_7_method_4_code
def y_Tree_follow : MethodName := ⟨R_Tree, "follow", "(II)I"⟩
def w_Tree_follow : List Cond := Cond.code y_Tree_follow b_Tree_follow 4 (some .int) :: WA
abbrev b_Tree_set : ByteArray := prog_7_method_7_code
def y_Tree_set : MethodName := ⟨R_Tree, "set", "(III)V"⟩
def w_Tree_set : List Cond := Cond.code y_Tree_set b_Tree_set 5 none :: WA
abbrev b_Words_rest : ByteArray := prog_8_method_4_code
def y_Words_rest : MethodName := ⟨R_Words, "rest", "(IZ)I"⟩
def w_Words_rest : List Cond := Cond.code y_Words_rest b_Words_rest 2 (some .int) :: WA
abbrev b_Words_block : ByteArray := prog_8_method_5_code
def y_Words_block : MethodName := ⟨R_Words, "block", "(IZ)I"⟩
def w_Words_block : List Cond := Cond.code y_Words_block b_Words_block 3 (some .int) :: WA
abbrev b_DL_paint : ByteArray := prog_1_method_2_code
def y_DL_paint : MethodName := ⟨R_DL, "paint", "(IIZ)Z"⟩
def w_DL_paint : List Cond := Cond.code y_DL_paint b_DL_paint 4 (some .boolean) :: WA
abbrev b_Line_fill : ByteArray := prog_4_method_4_code
def y_Line_fill : MethodName := ⟨R_Line, "fill", "(IIZ)V"⟩
def w_Line_fill : List Cond := Cond.code y_Line_fill b_Line_fill 9 none :: WA
abbrev b_DL_clear : ByteArray := prog_1_method_5_code
def y_DL_clear : MethodName := ⟨R_DL, "clear", "()V"⟩
def w_DL_clear : List Cond := Cond.code y_DL_clear b_DL_clear 1 none :: WA
abbrev b_Coder_begin : ByteArray := prog_3_method_2_code
def y_Coder_begin : MethodName := ⟨R_Coder, "begin", "()V"⟩
def w_Coder_begin : List Cond := Cond.code y_Coder_begin b_Coder_begin 1 none :: WA
abbrev b_Bits_cut : ByteArray := prog_2_method_6_code
def y_Bits_cut : MethodName := ⟨R_Bits, "cut", "(I)V"⟩
def w_Bits_cut : List Cond := Cond.code y_Bits_cut b_Bits_cut 4 none :: WA
abbrev b_Line_whiten : ByteArray := prog_4_method_2_code
def y_Line_whiten : MethodName := ⟨R_Line, "whiten", "()V"⟩
def w_Line_whiten : List Cond := Cond.code y_Line_whiten b_Line_whiten 1 none :: WA
abbrev b_Arrays_fill : ByteArray := prog_21_method_101_code
def y_Arrays_fill : MethodName := ⟨R_Arrays, "fill", "([JJ)V"⟩
def w_Arrays_fill : List Cond := Cond.code y_Arrays_fill b_Arrays_fill 5 none :: WA
abbrev b_DL_out : ByteArray := prog_1_method_6_code
def y_DL_out : MethodName := ⟨R_DL, "out", "(I)J"⟩
def w_DL_out : List Cond := Cond.code y_DL_out b_DL_out 2 (some .long) :: WA
abbrev b_Bits_part : ByteArray := prog_2_method_3_code
def y_Bits_part : MethodName := ⟨R_Bits, "part", "(I)J"⟩
def w_Bits_part : List Cond := Cond.code y_Bits_part b_Bits_part 2 (some .long) :: WA
abbrev b_DL_give : ByteArray := prog_1_method_7_code
def y_DL_give : MethodName := ⟨R_DL, "give", "(JI)Z"⟩
def w_DL_give : List Cond := Cond.code y_DL_give b_DL_give 4 (some .boolean) :: WA
abbrev b_Bits_add : ByteArray := prog_2_method_5_code
def y_Bits_add : MethodName := ⟨R_Bits, "add", "(JI)Z"⟩
def w_Bits_add : List Cond := Cond.code y_Bits_add b_Bits_add 8 (some .boolean) :: WA
abbrev b_DL_wipe : ByteArray := prog_1_method_9_code
def y_DL_wipe : MethodName := ⟨R_DL, "wipe", "()V"⟩
def w_DL_wipe : List Cond := Cond.code y_DL_wipe b_DL_wipe 1 none :: WA
abbrev b_Reader_begin : ByteArray := prog_5_method_2_code
def y_Reader_begin : MethodName := ⟨R_Reader, "begin", "()V"⟩
def w_Reader_begin : List Cond := Cond.code y_Reader_begin b_Reader_begin 1 none :: WA
abbrev b_DL_rewind : ByteArray := prog_1_method_10_code
def y_DL_rewind : MethodName := ⟨R_DL, "rewind", "()V"⟩
def w_DL_rewind : List Cond := Cond.code y_DL_rewind b_DL_rewind 1 none :: WA
abbrev b_DL_read : ByteArray := prog_1_method_11_code
def y_DL_read : MethodName := ⟨R_DL, "read", "()I"⟩
def w_DL_read : List Cond := Cond.code y_DL_read b_DL_read 1 (some .int) :: WA
abbrev b_Reader_nextLine : ByteArray := prog_5_method_3_code
def y_Reader_nextLine : MethodName := ⟨R_Reader, "nextLine", "()I"⟩
def w_Reader_nextLine : List Cond := Cond.code y_Reader_nextLine b_Reader_nextLine 2 (some .int) :: WA
abbrev b_Spot_begin : ByteArray := prog_6_method_2_code
def y_Spot_begin : MethodName := ⟨R_Spot, "begin", "(LDotLines$Line;)V"⟩
def w_Spot_begin : List Cond := Cond.code y_Spot_begin b_Spot_begin 2 none :: WA
abbrev b_Spot_move : ByteArray := prog_6_method_3_code
def y_Spot_move : MethodName := ⟨R_Spot, "move", "(IZ)V"⟩
def w_Spot_move : List Cond := Cond.code y_Spot_move b_Spot_move 5 none :: WA
abbrev b_Line_firstRightOf : ByteArray := prog_4_method_8_code
def y_Line_firstRightOf : MethodName := ⟨R_Line, "firstRightOf", "(II)I"⟩
def w_Line_firstRightOf : List Cond := Cond.code y_Line_firstRightOf b_Line_firstRightOf 4 (some .int) :: WA
abbrev b_Line_placeOf : ByteArray := prog_4_method_7_code
def y_Line_placeOf : MethodName := ⟨R_Line, "placeOf", "(I)I"⟩
def w_Line_placeOf : List Cond := Cond.code y_Line_placeOf b_Line_placeOf 2 (some .int) :: WA
abbrev b_Reader_readSteps : ByteArray := prog_5_method_4_code
def y_Reader_readSteps : MethodName := ⟨R_Reader, "readSteps", "()I"⟩
def w_Reader_readSteps : List Cond := Cond.code y_Reader_readSteps b_Reader_readSteps 4 (some .int) :: WA
abbrev b_Reader_take : ByteArray := prog_5_method_5_code
def y_Reader_take : MethodName := ⟨R_Reader, "take", "(I)I"⟩
def w_Reader_take : List Cond := Cond.code y_Reader_take b_Reader_take 4 (some .int) :: WA
abbrev b_Bits_bit : ByteArray := prog_2_method_4_code
def y_Bits_bit : MethodName := ⟨R_Bits, "bit", "(I)I"⟩
def w_Bits_bit : List Cond := Cond.code y_Bits_bit b_Bits_bit 3 (some .int) :: WA
abbrev b_Tree_isWord : ByteArray := prog_7_method_2_code
def y_Tree_isWord : MethodName := ⟨R_Tree, "isWord", "(I)Z"⟩
def w_Tree_isWord : List Cond := Cond.code y_Tree_isWord b_Tree_isWord 1 (some .boolean) :: WA
abbrev b_Tree_meaning : ByteArray := prog_7_method_3_code
def y_Tree_meaning : MethodName := ⟨R_Tree, "meaning", "(I)I"⟩
def w_Tree_meaning : List Cond := Cond.code y_Tree_meaning b_Tree_meaning 1 (some .int) :: WA
abbrev b_Reader_pass : ByteArray := prog_5_method_7_code
def y_Reader_pass : MethodName := ⟨R_Reader, "pass", "()I"⟩
def w_Reader_pass : List Cond := Cond.code y_Reader_pass b_Reader_pass 1 (some .int) :: WA
abbrev b_Reader_faultAt : ByteArray := prog_5_method_6_code
def y_Reader_faultAt : MethodName := ⟨R_Reader, "faultAt", "(II)I"⟩
def w_Reader_faultAt : List Cond := Cond.code y_Reader_faultAt b_Reader_faultAt 3 (some .int) :: WA
abbrev b_Reader_drawTo : ByteArray := prog_5_method_11_code
def y_Reader_drawTo : MethodName := ⟨R_Reader, "drawTo", "(I)V"⟩
def w_Reader_drawTo : List Cond := Cond.code y_Reader_drawTo b_Reader_drawTo 2 none :: WA
abbrev b_Reader_across : ByteArray := prog_5_method_9_code
def y_Reader_across : MethodName := ⟨R_Reader, "across", "()I"⟩
def w_Reader_across : List Cond := Cond.code y_Reader_across b_Reader_across 5 (some .int) :: WA
abbrev b_Reader_runFrom : ByteArray := prog_5_method_10_code
def y_Reader_runFrom : MethodName := ⟨R_Reader, "runFrom", "(IZ)I"⟩
def w_Reader_runFrom : List Cond := Cond.code y_Reader_runFrom b_Reader_runFrom 6 (some .int) :: WA
abbrev b_Reader_shift : ByteArray := prog_5_method_8_code
def y_Reader_shift : MethodName := ⟨R_Reader, "shift", "(I)I"⟩
def w_Reader_shift : List Cond := Cond.code y_Reader_shift b_Reader_shift 3 (some .int) :: WA
abbrev b_Line_findChanges : ByteArray := prog_4_method_5_code
def y_Line_findChanges : MethodName := ⟨R_Line, "findChanges", "()V"⟩
def w_Line_findChanges : List Cond := Cond.code y_Line_findChanges b_Line_findChanges 6 none :: WA
abbrev b_Line_addChanges : ByteArray := prog_4_method_6_code
def y_Line_addChanges : MethodName := ⟨R_Line, "addChanges", "(IJ)V"⟩
def w_Line_addChanges : List Cond := Cond.code y_Line_addChanges b_Line_addChanges 8 none :: WA
abbrev b_Long_bitCount : ByteArray := prog_16_method_50_code
def y_Long_bitCount : MethodName := ⟨R_Long, "bitCount", "(J)I"⟩
def w_Long_bitCount : List Cond := Cond.code y_Long_bitCount b_Long_bitCount 2 (some .int) :: WA
abbrev b_Long_numberOfLeadingZeros : ByteArray := prog_16_method_48_code
def y_Long_numberOfLeadingZeros : MethodName := ⟨R_Long, "numberOfLeadingZeros", "(J)I"⟩
def w_Long_numberOfLeadingZeros : List Cond := Cond.code y_Long_numberOfLeadingZeros b_Long_numberOfLeadingZeros 3 (some .int) :: WA
abbrev b_DL_dots : ByteArray := prog_1_method_13_code
def y_DL_dots : MethodName := ⟨R_DL, "dots", "(I)J"⟩
def w_DL_dots : List Cond := Cond.code y_DL_dots b_DL_dots 2 (some .long) :: WA
abbrev b_Line_part : ByteArray := prog_4_method_3_code
def y_Line_part : MethodName := ⟨R_Line, "part", "(I)J"⟩
def w_Line_part : List Cond := Cond.code y_Line_part b_Line_part 2 (some .long) :: WA
abbrev b_DL_change : ByteArray := prog_1_method_14_code
def y_DL_change : MethodName := ⟨R_DL, "change", "(I)I"⟩
def w_DL_change : List Cond := Cond.code y_DL_change b_DL_change 3 (some .int) :: WA
abbrev b_DL_look : ByteArray := prog_1_method_15_code
def y_DL_look : MethodName := ⟨R_DL, "look", "(I)I"⟩
def w_DL_look : List Cond := Cond.code y_DL_look b_DL_look 2 (some .int) :: WA
abbrev b_Bits_bytes : ByteArray := prog_2_method_2_code
def y_Bits_bytes : MethodName := ⟨R_Bits, "bytes", "()I"⟩
def w_Bits_bytes : List Cond := Cond.code y_Bits_bytes b_Bits_bytes 1 (some .int) :: WA
abbrev b_Law_cell : ByteArray := method_2_code
def y_Law_cell : MethodName := ⟨R_Law, "cell", "([II)I"⟩
def w_Law_cell : List Cond := Cond.code y_Law_cell b_Law_cell 2 (some .int) :: WA
abbrev b_Law_code : ByteArray := method_3_code
def y_Law_code : MethodName := ⟨R_Law, "code", "(LDotLines;[J)I"⟩
abbrev b_DL_code : ByteArray := prog_1_method_3_code
def y_DL_code : MethodName := ⟨R_DL, "code", "()I"⟩
def w_DL_code : List Cond := Cond.code y_DL_code b_DL_code 2 (some .int) :: WA
abbrev b_Coder_addLine : ByteArray := prog_3_method_3_code
def y_Coder_addLine : MethodName := ⟨R_Coder, "addLine", "()I"⟩
def w_Coder_addLine : List Cond := Cond.code y_Coder_addLine b_Coder_addLine 6 (some .int) :: WA
abbrev b_Coder_addSteps : ByteArray := prog_3_method_5_code
def y_Coder_addSteps : MethodName := ⟨R_Coder, "addSteps", "()V"⟩
def w_Coder_addSteps : List Cond := Cond.code y_Coder_addSteps b_Coder_addSteps 3 none :: WA
abbrev b_Coder_addStep : ByteArray := prog_3_method_6_code
def y_Coder_addStep : MethodName := ⟨R_Coder, "addStep", "(II)V"⟩
def w_Coder_addStep : List Cond := Cond.code y_Coder_addStep b_Coder_addStep 4 none :: WA
abbrev b_Coder_addWord : ByteArray := prog_3_method_8_code
def y_Coder_addWord : MethodName := ⟨R_Coder, "addWord", "(I)V"⟩
def w_Coder_addWord : List Cond := Cond.code y_Coder_addWord b_Coder_addWord 2 none :: WA
abbrev b_Coder_addRun : ByteArray := prog_3_method_7_code
def y_Coder_addRun : MethodName := ⟨R_Coder, "addRun", "(IZ)V"⟩
def w_Coder_addRun : List Cond := Cond.code y_Coder_addRun b_Coder_addRun 4 none :: WA
abbrev b_Law_close : ByteArray := method_4_code
def y_Law_close : MethodName := ⟨R_Law, "close", "(LDotLines;[J)I"⟩
abbrev b_DL_close : ByteArray := prog_1_method_4_code
def y_DL_close : MethodName := ⟨R_DL, "close", "()I"⟩
def w_DL_close : List Cond := Cond.code y_DL_close b_DL_close 2 (some .int) :: WA
abbrev b_Coder_finish : ByteArray := prog_3_method_4_code
def y_Coder_finish : MethodName := ⟨R_Coder, "finish", "()I"⟩
def w_Coder_finish : List Cond := Cond.code y_Coder_finish b_Coder_finish 2 (some .int) :: WA
abbrev b_Law_turn : ByteArray := method_5_code
def y_Law_turn : MethodName := ⟨R_Law, "turn", "(LDotLines;I[J)I"⟩
abbrev b_DL_turn : ByteArray := prog_1_method_8_code
def y_DL_turn : MethodName := ⟨R_DL, "turn", "(I)I"⟩
def w_DL_turn : List Cond := Cond.code y_DL_turn b_DL_turn 2 (some .int) :: WA
abbrev b_Bits_become : ByteArray := prog_2_method_7_code
def y_Bits_become : MethodName := ⟨R_Bits, "become", "(LDotLines$Bits;I)V"⟩
def w_Bits_become : List Cond := Cond.code y_Bits_become b_Bits_become 6 none :: WA
abbrev b_Law_black : ByteArray := method_6_code
def y_Law_black : MethodName := ⟨R_Law, "black", "(LDotLines;I[J)I"⟩
abbrev b_DL_black : ByteArray := prog_1_method_12_code
def y_DL_black : MethodName := ⟨R_DL, "black", "(I)Z"⟩
def w_DL_black : List Cond := Cond.code y_DL_black b_DL_black 2 (some .boolean) :: WA
abbrev b_Model_init : ByteArray := prog_10_method_1_code
def y_Model_init : MethodName := ⟨R_Model, "<init>", "(I)V"⟩
def w_Model_init : List Cond := Cond.code y_Model_init b_Model_init 2 none :: WA
abbrev b_Model_thrown : ByteArray := prog_10_method_2_code
def y_Model_thrown : MethodName := ⟨R_Model, "thrown", "()I"⟩
def w_Model_thrown : List Cond := Cond.code y_Model_thrown b_Model_thrown 1 (some .int) :: WA
abbrev b_Model_paint : ByteArray := prog_10_method_5_code
def y_Model_paint : MethodName := ⟨R_Model, "paint", "(IIZ)Z"⟩
def w_Model_paint : List Cond := Cond.code y_Model_paint b_Model_paint 5 (some .boolean) :: WA
abbrev b_Model_code : ByteArray := prog_10_method_10_code
def y_Model_code : MethodName := ⟨R_Model, "code", "()I"⟩
def w_Model_code : List Cond := Cond.code y_Model_code b_Model_code 2 (some .int) :: WA
abbrev b_Model_lineWords : ByteArray := prog_10_method_8_code
def y_Model_lineWords : MethodName := ⟨R_Model, "lineWords", "()V"⟩
def w_Model_lineWords : List Cond := Cond.code y_Model_lineWords b_Model_lineWords 8 none :: WA
abbrev b_Model_dotAfter : ByteArray := prog_10_method_3_code
def y_Model_dotAfter : MethodName := ⟨R_Model, "dotAfter", "([ZIZ)I"⟩
def w_Model_dotAfter : List Cond := Cond.code y_Model_dotAfter b_Model_dotAfter 5 (some .int) :: WA
abbrev b_Model_changeAfter : ByteArray := prog_10_method_4_code
def y_Model_changeAfter : MethodName := ⟨R_Model, "changeAfter", "([ZIZ)I"⟩
def w_Model_changeAfter : List Cond := Cond.code y_Model_changeAfter b_Model_changeAfter 6 (some .int) :: WA
abbrev b_Model_word : ByteArray := prog_10_method_6_code
def y_Model_word : MethodName := ⟨R_Model, "word", "(I)V"⟩
def w_Model_word : List Cond := Cond.code y_Model_word b_Model_word 4 none :: WA
abbrev b_Model_run : ByteArray := prog_10_method_7_code
def y_Model_run : MethodName := ⟨R_Model, "run", "(IZ)V"⟩
def w_Model_run : List Cond := Cond.code y_Model_run b_Model_run 5 none :: WA
abbrev b_Model_take : ByteArray := prog_10_method_9_code
def y_Model_take : MethodName := ⟨R_Model, "take", "()V"⟩
def w_Model_take : List Cond := Cond.code y_Model_take b_Model_take 2 none :: WA
abbrev b_Model_close : ByteArray := prog_10_method_12_code
def y_Model_close : MethodName := ⟨R_Model, "close", "()I"⟩
def w_Model_close : List Cond := Cond.code y_Model_close b_Model_close 1 (some .int) :: WA
abbrev b_Model_bytesOut : ByteArray := prog_10_method_11_code
def y_Model_bytesOut : MethodName := ⟨R_Model, "bytesOut", "()I"⟩
def w_Model_bytesOut : List Cond := Cond.code y_Model_bytesOut b_Model_bytesOut 1 (some .int) :: WA
abbrev b_Model_clear : ByteArray := prog_10_method_13_code
def y_Model_clear : MethodName := ⟨R_Model, "clear", "()V"⟩
def w_Model_clear : List Cond := Cond.code y_Model_clear b_Model_clear 2 none :: WA
abbrev b_Model_out : ByteArray := prog_10_method_15_code
def y_Model_out : MethodName := ⟨R_Model, "out", "(I)J"⟩
def w_Model_out : List Cond := Cond.code y_Model_out b_Model_out 5 (some .long) :: WA
abbrev b_Model_byteOut : ByteArray := prog_10_method_14_code
def y_Model_byteOut : MethodName := ⟨R_Model, "byteOut", "(J)I"⟩
def w_Model_byteOut : List Cond := Cond.code y_Model_byteOut b_Model_byteOut 7 (some .int) :: WA
abbrev b_Model_give : ByteArray := prog_10_method_16_code
def y_Model_give : MethodName := ⟨R_Model, "give", "(JI)Z"⟩
def w_Model_give : List Cond := Cond.code y_Model_give b_Model_give 5 (some .boolean) :: WA
abbrev b_Model_turn : ByteArray := prog_10_method_17_code
def y_Model_turn : MethodName := ⟨R_Model, "turn", "(I)I"⟩
def w_Model_turn : List Cond := Cond.code y_Model_turn b_Model_turn 3 (some .int) :: WA
abbrev b_Model_begin : ByteArray := prog_10_method_20_code
def y_Model_begin : MethodName := ⟨R_Model, "begin", "()V"⟩
def w_Model_begin : List Cond := Cond.code y_Model_begin b_Model_begin 2 none :: WA
abbrev b_Model_wipe : ByteArray := prog_10_method_18_code
def y_Model_wipe : MethodName := ⟨R_Model, "wipe", "()V"⟩
def w_Model_wipe : List Cond := Cond.code y_Model_wipe b_Model_wipe 1 none :: WA
abbrev b_Model_rewind : ByteArray := prog_10_method_19_code
def y_Model_rewind : MethodName := ⟨R_Model, "rewind", "()V"⟩
def w_Model_rewind : List Cond := Cond.code y_Model_rewind b_Model_rewind 1 none :: WA
abbrev b_Model_read : ByteArray := prog_10_method_30_code
def y_Model_read : MethodName := ⟨R_Model, "read", "()I"⟩
def w_Model_read : List Cond := Cond.code y_Model_read b_Model_read 4 (some .int) :: WA
abbrev b_Model_piece : ByteArray := prog_10_method_29_code
def y_Model_piece : MethodName := ⟨R_Model, "piece", "(IZ)I"⟩
def w_Model_piece : List Cond := Cond.code y_Model_piece b_Model_piece 10 (some .int) :: WA
abbrev b_Model_mode : ByteArray := prog_10_method_25_code
def y_Model_mode : MethodName := ⟨R_Model, "mode", "(I)I"⟩
def w_Model_mode : List Cond := Cond.code y_Model_mode b_Model_mode 5 (some .int) :: WA
abbrev b_Model_fault : ByteArray := prog_10_method_23_code
def y_Model_fault : MethodName := ⟨R_Model, "fault", "(II)V"⟩
def w_Model_fault : List Cond := Cond.code y_Model_fault b_Model_fault 3 none :: WA
abbrev b_Model_bit : ByteArray := prog_10_method_24_code
def y_Model_bit : MethodName := ⟨R_Model, "bit", "(I)I"⟩
def w_Model_bit : List Cond := Cond.code y_Model_bit b_Model_bit 2 (some .int) :: WA
abbrev b_Model_placeOf : ByteArray := prog_10_method_22_code
def y_Model_placeOf : MethodName := ⟨R_Model, "placeOf", "([III)I"⟩
def w_Model_placeOf : List Cond := Cond.code y_Model_placeOf b_Model_placeOf 5 (some .int) :: WA
abbrev b_Model_begins : ByteArray := prog_10_method_21_code
def y_Model_begins : MethodName := ⟨R_Model, "begins", "([III)Z"⟩
def w_Model_begins : List Cond := Cond.code y_Model_begins b_Model_begins 7 (some .boolean) :: WA
abbrev b_Model_end : ByteArray := prog_10_method_27_code
def y_Model_end : MethodName := ⟨R_Model, "end", "()V"⟩
def w_Model_end : List Cond := Cond.code y_Model_end b_Model_end 4 none :: WA
abbrev b_Model_fill : ByteArray := prog_10_method_28_code
def y_Model_fill : MethodName := ⟨R_Model, "fill", "(IIZ)V"⟩
def w_Model_fill : List Cond := Cond.code y_Model_fill b_Model_fill 5 none :: WA
abbrev b_Model_readRun : ByteArray := prog_10_method_26_code
def y_Model_readRun : MethodName := ⟨R_Model, "readRun", "(IZ)I"⟩
def w_Model_readRun : List Cond := Cond.code y_Model_readRun b_Model_readRun 13 (some .int) :: WA
abbrev b_Model_black : ByteArray := prog_10_method_31_code
def y_Model_black : MethodName := ⟨R_Model, "black", "(I)Z"⟩
def w_Model_black : List Cond := Cond.code y_Model_black b_Model_black 2 (some .boolean) :: WA
abbrev b_Model_dots : ByteArray := prog_10_method_32_code
def y_Model_dots : MethodName := ⟨R_Model, "dots", "(I)J"⟩
def w_Model_dots : List Cond := Cond.code y_Model_dots b_Model_dots 8 (some .long) :: WA
abbrev b_Model_change : ByteArray := prog_10_method_33_code
def y_Model_change : MethodName := ⟨R_Model, "change", "(I)I"⟩
def w_Model_change : List Cond := Cond.code y_Model_change b_Model_change 5 (some .int) :: WA
abbrev b_Model_look : ByteArray := prog_10_method_34_code
def y_Model_look : MethodName := ⟨R_Model, "look", "(I)I"⟩
def w_Model_look : List Cond := Cond.code y_Model_look b_Model_look 2 (some .int) :: WA
abbrev b_Law_law : ByteArray := code
def y_Law_law : MethodName := ⟨R_Law, "law", "([I)Z"⟩
