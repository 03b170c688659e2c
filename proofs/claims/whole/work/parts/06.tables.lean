/-! the static tables of Words -/
def tSt (j : Nat) : Int32 := ([130, 66, 10, 3, 11, 67, 131, 17, 9, 4097] : List Int32).getD j 0
def tWR (j : Nat) : Int32 := ([309, 71, 23, 24, 27, 28, 30, 31, 51, 52, 39, 40, 72, 67, 116, 117, 106, 107, 167, 140, 136, 151, 131, 132, 168, 171, 147, 164, 152, 258, 259, 282, 283, 274, 275, 276, 277, 278, 279, 296, 297, 298, 299, 300, 301, 260, 261, 266, 267, 338, 339, 340, 341, 292, 293, 344, 345, 346, 347, 330, 331, 306, 307, 308] : List Int32).getD j 0
def tBR (j : Nat) : Int32 := ([1079, 10, 7, 6, 11, 19, 18, 35, 69, 68, 132, 133, 135, 260, 263, 536, 1047, 1048, 1032, 2151, 2152, 2156, 2103, 2088, 2071, 2072, 4298, 4299, 4300, 4301, 4200, 4201, 4202, 4203, 4306, 4307, 4308, 4309, 4310, 4311, 4204, 4205, 4314, 4315, 4180, 4181, 4182, 4183, 4196, 4197, 4178, 4179, 4132, 4151, 4152, 4135, 4136, 4184, 4185, 4139, 4140, 4186, 4198, 4199] : List Int32).getD j 0
def tWB (j : Nat) : Int32 := ([59, 50, 87, 183, 310, 311, 356, 357, 360, 359, 716, 717, 722, 723, 724, 725, 726, 727, 728, 729, 730, 731, 664, 665, 666, 88, 667] : List Int32).getD j 0
def tBB (j : Nat) : Int32 := ([1039, 4296, 4297, 4187, 4147, 4148, 4149, 8300, 8301, 8266, 8267, 8268, 8269, 8306, 8307, 8308, 8309, 8310, 8311, 8274, 8275, 8276, 8277, 8282, 8283, 8292, 8293] : List Int32).getD j 0
def tLB (j : Nat) : Int32 := ([2056, 2060, 2061, 4114, 4115, 4116, 4117, 4118, 4119, 4124, 4125, 4126, 4127] : List Int32).getD j 0
def tb1 (nm : String) (N : Nat) (f : Nat → Int32) (A : Nat → Prop) (U : State) : Prop := ∃ t : Nat, va_Z "DotLines$Words" nm "[I" (.ref t) A U U.heap ∧ va_T .int t N (fun j => .int (f j)) A U U.heap
def tb (A : Nat → Prop) (U : State) : Prop := tb1 "STEPS" 10 tSt A U ∧ tb1 "WHITE_RESTS" 64 tWR A U ∧ tb1 "BLACK_RESTS" 64 tBR A U ∧ tb1 "WHITE_BLOCKS" 27 tWB A U ∧ tb1 "BLACK_BLOCKS" 27 tBB A U ∧ tb1 "LONG_BLOCKS" 13 tLB A U
theorem tb1.use {nm : String} {N : Nat} {f : Nat → Int32} {A B : Nat → Prop} {s U : State} {H : Heap} {locs : List Loc} (h : tb1 nm N f A s) (hS : va_S A s.heap H locs) (hAB : ∀ q, B q → A q) (hU : U.heap = H) (hv : s.vm.Alike U.vm) : tb1 nm N f B U := by
  obtain ⟨t, h1, h2⟩ := h
  refine ⟨t, ?_, ?_⟩
  · rw [hU]; exact ((h1.kept (fun q a b => hS.2.1 q a b)).narrow hAB).moved hv
  · rw [hU]; exact ((h2.kept (fun q a b => hS.2.1 q a b)).narrow hAB).moved hv
theorem tb.use {A B : Nat → Prop} {s U : State} {H : Heap} {locs : List Loc} (h : tb A s) (hS : va_S A s.heap H locs) (hAB : ∀ q, B q → A q) (hU : U.heap = H) (hv : s.vm.Alike U.vm) : tb B U := by
  obtain ⟨h1, h2, h3, h4, h5, h6⟩ := h
  exact ⟨h1.use hS hAB hU hv, h2.use hS hAB hU hv, h3.use hS hAB hU hv, h4.use hS hAB hU hv, h5.use hS hAB hU hv, h6.use hS hAB hU hv⟩
theorem tb_calling {A : Nat → Prop} {U : State} {g : JFrame} {mk : MethodId} {a : Array Value} (h : tb A U) : tb A (U.calling g mk a) := h.use (H := U.heap) (locs := []) va_S.rf (fun _ h => h) rfl (Vm.Alike.refl U.vm)
