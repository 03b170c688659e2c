def f_Bits_bytes (b : (Nat → Int64) × Int32) : Int32 := (b.2 + 7) / 8
set_option maxHeartbeats 4000000 in
set_option maxRecDepth 100000 in
theorem c_Bits_bytes (l : Launch) (dC : Nat → ClassId) (dI : Nat → Nat → Nat) (cI cL : ClassId) (o : Nat) (a : Nat) (b : (Nat → Int64) × Int32) (sz : Nat)    : Met l y_Bits_bytes w_Bits_bytes ({ frames := 0, cells := 0, slots := 0, locals := 0 }) (va_Pc [.ref o] (fun U => U.heap.size = sz ∧ va_P (dC, dI) classes [(o, .inr (0, [.ref a, .int b.2])), (a, .inl (cL, 8192, .inr (.inl b.1)))] U.heap ∧ va_K (dC, dI) classes [(cI, .int), (cL, .long)] U ∧ va_D (fun _ => True) [(o, .inr (0, [.ref a, .int b.2])), (a, .inl (cL, 8192, .inr (.inl b.1)))])) (va_Qi (fun (r : Int32) (u : Unit) => r = f_Bits_bytes b) (fun (u : Unit) (t : State) => va_P (dC, dI) classes [(o, .inr (0, [.ref a, .int b.2])), (a, .inl (cL, 8192, .inr (.inl b.1)))] t.heap ∧ va_K (dC, dI) classes [(cI, .int), (cL, .long)] t ∧ va_D (va_A [(o, .inr (0, [.ref a, .int b.2])), (a, .inl (cL, 8192, .inr (.inl b.1)))] sz) [(o, .inr (0, [.ref a, .int b.2])), (a, .inl (cL, 8192, .inr (.inl b.1)))]) (va_A [(o, .inr (0, [.ref a, .int b.2])), (a, .inl (cL, 8192, .inr (.inl b.1)))] sz)) 0 0 (va_A [(o, .inr (0, [.ref a, .int b.2])), (a, .inl (cL, 8192, .inr (.inl b.1)))] sz) := by
  refine Met.ofW (cc := b_Bits_bytes) (maxL := 1) (ret := (some .int)) (by decide) rfl ?_
  intro p e s m args below meth c s₁ B hml hv
  obtain ⟨rfl, hsz, hP, hK, hD0⟩ := hv
  have hx := B.exec
  have hb := B.bytes
  have hr := B.returns
  have hts := atoms_spec (ws := w_Bits_bytes) B.pre
  have hw : ∀ w ∈ WA, w.before _ s = true := fun w h => hts w (List.mem_cons_of_mem _ h)
  have hown : s.vm.findClass R_Bits = some m.cls := findClass_of_methodNamed B.named
  have hlocks := B.notSynchronized
  subst hsz
  have hD := hD0.self (sz := s.heap.size)
  generalize hAe : va_A [(o, .inr (0, [.ref a, .int b.2])), (a, .inl (cL, 8192, .inr (.inl b.1)))] s.heap.size = A at hD ⊢
  have hA : ∀ q : Nat, s.heap.size ≤ q → A q := fun q h => by rw [← hAe]; exact Or.inr h
  have hS : va_S A s.heap s.heap [] := va_S.rf
  have hP : va_P (dC, dI) classes [(o, .inr (0, [.ref a, .int b.2])), (a, .inl (cL, 8192, .inr (.inl b.1)))] s.heap := hP
  have hl := lv_entry ([.ref o]) (n := 1) (Nat.le_of_ble_eq_true rfl)
  rw [lg_entry_eq]
  generalize (lg_sl ([.ref o]) ++ List.replicate (1 - (lg_sl ([.ref o])).length) Slot.unset).toArray = ls at hl ⊢
  have hl : lv_has ls 1 [(0, .ref o)] := hl
  refine lv_aload_n hx hb d_Bits_bytes_0 rfl (lv_at hl 0 rfl) ?_
  refine va_get (D := (dC, dI)) (ci := 0) (v := .int b.2) (C := R_Bits) (T := F_Bits) (N := 2) hx hb hw i_Bits hown hK hP 0 rfl rfl 1 (by decide) (hw _ m_81) (fun _ h9 => h9) rfl d_Bits_bytes_1 ?_
  refine lv_bipush (v := 7) hx hb d_Bits_bytes_4 (by decide) ?_
  refine lv_iadd hx hb d_Bits_bytes_6 ?_
  refine lv_bipush (v := 8) hx hb d_Bits_bytes_7 (by decide) ?_
  refine lv_idiv hx hb d_Bits_bytes_9 (by decide) ?_
  have hP9 := hP.sub (ws' := [(o, .inr (0, [.ref a, .int b.2])), (a, .inl (cL, 8192, .inr (.inl b.1)))]) [0, 1] rfl
  have hD9 := hD.sub (ws' := [(o, .inr (0, [.ref a, .int b.2])), (a, .inl (cL, 8192, .inr (.inl b.1)))]) [0, 1] (by decide) rfl
  have hK9 := hK
  exact W.iret (v := (b.2 + 7) / 8) hx hb hr (fun t ht hW => ⟨⟨(b.2 + 7) / 8, (), rfl, (by have h9 : f_Bits_bytes b = (b.2 + 7) / 8 := (by exact (rfl)); exact h9.symm), ⟨by rw [ht]; exact hP9, va_K.moved hW.alike hK9, hD9⟩⟩, hS.F ht⟩) hS.2.2 d_Bits_bytes_10
def f_Bits_part (b : (Nat → Int64) × Int32) (k : Int32) : Int64 := if k < 0 then (0) else (if k < (nI 8192) then (b.1 k.toNatClampNeg) else (0))
set_option maxHeartbeats 4000000 in
set_option maxRecDepth 100000 in
theorem c_Bits_part (l : Launch) (dC : Nat → ClassId) (dI : Nat → Nat → Nat) (cI cL : ClassId) (o : Nat) (a : Nat) (b : (Nat → Int64) × Int32) (sz : Nat)  (k : Int32)  : Met l y_Bits_part w_Bits_part ({ frames := 0, cells := 0, slots := 0, locals := 0 }) (va_Pc [.ref o, .int k] (fun U => U.heap.size = sz ∧ va_P (dC, dI) classes [(o, .inr (0, [.ref a, .int b.2])), (a, .inl (cL, 8192, .inr (.inl b.1)))] U.heap ∧ va_K (dC, dI) classes [(cI, .int), (cL, .long)] U ∧ va_D (fun _ => True) [(o, .inr (0, [.ref a, .int b.2])), (a, .inl (cL, 8192, .inr (.inl b.1)))])) (va_Ql (fun (r : Int64) (u : Unit) => r = f_Bits_part b k) (fun (u : Unit) (t : State) => va_P (dC, dI) classes [(o, .inr (0, [.ref a, .int b.2])), (a, .inl (cL, 8192, .inr (.inl b.1)))] t.heap ∧ va_K (dC, dI) classes [(cI, .int), (cL, .long)] t ∧ va_D (va_A [(o, .inr (0, [.ref a, .int b.2])), (a, .inl (cL, 8192, .inr (.inl b.1)))] sz) [(o, .inr (0, [.ref a, .int b.2])), (a, .inl (cL, 8192, .inr (.inl b.1)))]) (va_A [(o, .inr (0, [.ref a, .int b.2])), (a, .inl (cL, 8192, .inr (.inl b.1)))] sz)) 0 0 (va_A [(o, .inr (0, [.ref a, .int b.2])), (a, .inl (cL, 8192, .inr (.inl b.1)))] sz) := by
  refine Met.ofW (cc := b_Bits_part) (maxL := 2) (ret := (some .long)) (by decide) rfl ?_
  intro p e s m args below meth c s₁ B hml hv
  obtain ⟨rfl, hsz, hP, hK, hD0⟩ := hv
  have hx := B.exec
  have hb := B.bytes
  have hr := B.returns
  have hts := atoms_spec (ws := w_Bits_part) B.pre
  have hw : ∀ w ∈ WA, w.before _ s = true := fun w h => hts w (List.mem_cons_of_mem _ h)
  have hown : s.vm.findClass R_Bits = some m.cls := findClass_of_methodNamed B.named
  have hlocks := B.notSynchronized
  subst hsz
  have hD := hD0.self (sz := s.heap.size)
  generalize hAe : va_A [(o, .inr (0, [.ref a, .int b.2])), (a, .inl (cL, 8192, .inr (.inl b.1)))] s.heap.size = A at hD ⊢
  have hA : ∀ q : Nat, s.heap.size ≤ q → A q := fun q h => by rw [← hAe]; exact Or.inr h
  have hS : va_S A s.heap s.heap [] := va_S.rf
  have hP : va_P (dC, dI) classes [(o, .inr (0, [.ref a, .int b.2])), (a, .inl (cL, 8192, .inr (.inl b.1)))] s.heap := hP
  have hl := lv_entry ([.ref o, .int k]) (n := 2) (Nat.le_of_ble_eq_true rfl)
  rw [lg_entry_eq]
  generalize (lg_sl ([.ref o, .int k]) ++ List.replicate (2 - (lg_sl ([.ref o, .int k])).length) Slot.unset).toArray = ls at hl ⊢
  have hl : lv_has ls 2 [(0, .ref o), (1, .int k)] := hl
  refine lv_iload_n hx hb d_Bits_part_0 rfl (lv_at hl 1 rfl) ?_
  refine lv_if_lt (tgt := 13) hx hb d_Bits_part_1 (by decide) (fun c_1 => ?_) (fun c_1 => ?_)
  · refine lv_lconst (v := 0) hx hb d_Bits_part_13 (by decide) ?_
    refine lv_goto (tgt := 23) hx hb d_Bits_part_14 (by decide) ?_
    have hP9 := hP.sub (ws' := [(o, .inr (0, [.ref a, .int b.2])), (a, .inl (cL, 8192, .inr (.inl b.1)))]) [0, 1] rfl
    have hD9 := hD.sub (ws' := [(o, .inr (0, [.ref a, .int b.2])), (a, .inl (cL, 8192, .inr (.inl b.1)))]) [0, 1] (by decide) rfl
    have hK9 := hK
    exact W.lret (v := 0) hx hb hr (fun t ht hW => ⟨⟨0, (), rfl, (by have h9 : f_Bits_part b k = 0 := (by exact ((if_pos c_1).trans (rfl))); exact h9.symm), ⟨by rw [ht]; exact hP9, va_K.moved hW.alike hK9, hD9⟩⟩, hS.F ht⟩) hS.2.2 d_Bits_part_23
  · refine lv_iload_n hx hb d_Bits_part_4 rfl (lv_at hl 1 rfl) ?_
    refine lv_aload_n hx hb d_Bits_part_5 rfl (lv_at hl 0 rfl) ?_
    refine va_get (D := (dC, dI)) (ci := 0) (v := .ref a) (C := R_Bits) (T := F_Bits) (N := 2) hx hb hw i_Bits hown hK hP 0 rfl rfl 0 (by decide) (hw _ m_80) (fun _ h9 => h9) rfl d_Bits_part_6 ?_
    refine va_alen (v := nI 8192) hx hb hK hP 1 1 rfl rfl rfl d_Bits_part_9 ?_
    refine lv_icmp_lt (tgt := 17) hx hb d_Bits_part_10 (by decide) (fun c_2 => ?_) (fun c_2 => ?_)
    · refine lv_aload_n hx hb d_Bits_part_17 rfl (lv_at hl 0 rfl) ?_
      refine va_get (D := (dC, dI)) (ci := 0) (v := .ref a) (C := R_Bits) (T := F_Bits) (N := 2) hx hb hw i_Bits hown hK hP 0 rfl rfl 0 (by decide) (hw _ m_80) (fun _ h9 => h9) rfl d_Bits_part_18 ?_
      refine lv_iload_n hx hb d_Bits_part_21 rfl (lv_at hl 1 rfl) ?_
      refine va_lald hx hb hK hP 1 1 rfl rfl (ix_a (by decide) c_1 c_2) d_Bits_part_22 ?_
      have hP9 := hP.sub (ws' := [(o, .inr (0, [.ref a, .int b.2])), (a, .inl (cL, 8192, .inr (.inl b.1)))]) [0, 1] rfl
      have hD9 := hD.sub (ws' := [(o, .inr (0, [.ref a, .int b.2])), (a, .inl (cL, 8192, .inr (.inl b.1)))]) [0, 1] (by decide) rfl
      have hK9 := hK
      exact W.lret (v := b.1 k.toNatClampNeg) hx hb hr (fun t ht hW => ⟨⟨b.1 k.toNatClampNeg, (), rfl, (by have h9 : f_Bits_part b k = b.1 k.toNatClampNeg := (by exact ((if_neg c_1).trans ((if_pos c_2).trans (rfl)))); exact h9.symm), ⟨by rw [ht]; exact hP9, va_K.moved hW.alike hK9, hD9⟩⟩, hS.F ht⟩) hS.2.2 d_Bits_part_23
    · refine lv_lconst (v := 0) hx hb d_Bits_part_13 (by decide) ?_
      refine lv_goto (tgt := 23) hx hb d_Bits_part_14 (by decide) ?_
      have hP9 := hP.sub (ws' := [(o, .inr (0, [.ref a, .int b.2])), (a, .inl (cL, 8192, .inr (.inl b.1)))]) [0, 1] rfl
      have hD9 := hD.sub (ws' := [(o, .inr (0, [.ref a, .int b.2])), (a, .inl (cL, 8192, .inr (.inl b.1)))]) [0, 1] (by decide) rfl
      have hK9 := hK
      exact W.lret (v := 0) hx hb hr (fun t ht hW => ⟨⟨0, (), rfl, (by have h9 : f_Bits_part b k = 0 := (by exact ((if_neg c_1).trans ((if_neg c_2).trans (rfl)))); exact h9.symm), ⟨by rw [ht]; exact hP9, va_K.moved hW.alike hK9, hD9⟩⟩, hS.F ht⟩) hS.2.2 d_Bits_part_23
def f_Bits_bit (b : (Nat → Int64) × Int32) (k : Int32) : Int32 := let x_1 := k >>> ((6 : Int32) &&& 31); if x_1 < 0 then (0) else (if x_1 < (nI 8192) then (((((b.1 x_1.toNatClampNeg).toUInt64 >>> ((63 - (k &&& 63)).toInt64.toUInt64 &&& Int64.toUInt64 63)).toInt64).toInt32) &&& 1) else (0))
set_option maxHeartbeats 4000000 in
set_option maxRecDepth 100000 in
theorem c_Bits_bit (l : Launch) (dC : Nat → ClassId) (dI : Nat → Nat → Nat) (cI cL : ClassId) (o : Nat) (a : Nat) (b : (Nat → Int64) × Int32) (sz : Nat)  (k : Int32)  : Met l y_Bits_bit w_Bits_bit ({ frames := 0, cells := 0, slots := 0, locals := 0 }) (va_Pc [.ref o, .int k] (fun U => U.heap.size = sz ∧ va_P (dC, dI) classes [(o, .inr (0, [.ref a, .int b.2])), (a, .inl (cL, 8192, .inr (.inl b.1)))] U.heap ∧ va_K (dC, dI) classes [(cI, .int), (cL, .long)] U ∧ va_D (fun _ => True) [(o, .inr (0, [.ref a, .int b.2])), (a, .inl (cL, 8192, .inr (.inl b.1)))])) (va_Qi (fun (r : Int32) (u : Unit) => r = f_Bits_bit b k) (fun (u : Unit) (t : State) => va_P (dC, dI) classes [(o, .inr (0, [.ref a, .int b.2])), (a, .inl (cL, 8192, .inr (.inl b.1)))] t.heap ∧ va_K (dC, dI) classes [(cI, .int), (cL, .long)] t ∧ va_D (va_A [(o, .inr (0, [.ref a, .int b.2])), (a, .inl (cL, 8192, .inr (.inl b.1)))] sz) [(o, .inr (0, [.ref a, .int b.2])), (a, .inl (cL, 8192, .inr (.inl b.1)))]) (va_A [(o, .inr (0, [.ref a, .int b.2])), (a, .inl (cL, 8192, .inr (.inl b.1)))] sz)) 0 0 (va_A [(o, .inr (0, [.ref a, .int b.2])), (a, .inl (cL, 8192, .inr (.inl b.1)))] sz) := by
  refine Met.ofW (cc := b_Bits_bit) (maxL := 3) (ret := (some .int)) (by decide) rfl ?_
  intro p e s m args below meth c s₁ B hml hv
  obtain ⟨rfl, hsz, hP, hK, hD0⟩ := hv
  have hx := B.exec
  have hb := B.bytes
  have hr := B.returns
  have hts := atoms_spec (ws := w_Bits_bit) B.pre
  have hw : ∀ w ∈ WA, w.before _ s = true := fun w h => hts w (List.mem_cons_of_mem _ h)
  have hown : s.vm.findClass R_Bits = some m.cls := findClass_of_methodNamed B.named
  have hlocks := B.notSynchronized
  subst hsz
  have hD := hD0.self (sz := s.heap.size)
  generalize hAe : va_A [(o, .inr (0, [.ref a, .int b.2])), (a, .inl (cL, 8192, .inr (.inl b.1)))] s.heap.size = A at hD ⊢
  have hA : ∀ q : Nat, s.heap.size ≤ q → A q := fun q h => by rw [← hAe]; exact Or.inr h
  have hS : va_S A s.heap s.heap [] := va_S.rf
  have hP : va_P (dC, dI) classes [(o, .inr (0, [.ref a, .int b.2])), (a, .inl (cL, 8192, .inr (.inl b.1)))] s.heap := hP
  have hl := lv_entry ([.ref o, .int k]) (n := 3) (Nat.le_of_ble_eq_true rfl)
  rw [lg_entry_eq]
  generalize (lg_sl ([.ref o, .int k]) ++ List.replicate (3 - (lg_sl ([.ref o, .int k])).length) Slot.unset).toArray = ls at hl ⊢
  have hl : lv_has ls 3 [(0, .ref o), (1, .int k)] := hl
  refine lv_iload_n hx hb d_Bits_bit_0 rfl (lv_at hl 1 rfl) ?_
  refine lv_bipush (v := 6) hx hb d_Bits_bit_1 (by decide) ?_
  refine lv_ishr hx hb d_Bits_bit_3 ?_
  refine lv_topi (fun x_1 ex_1 => ?_)
  replace ex_1 := ex_1.symm
  refine lv_istore_n (lv' := [(2, .int x_1), (0, .ref o), (1, .int k)]) hx hb d_Bits_bit_4 rfl hl (by decide) rfl (fun ls hl => ?_)
  refine lv_iload_n hx hb d_Bits_bit_5 rfl (lv_at hl 0 rfl) ?_
  refine lv_if_lt (tgt := 18) hx hb d_Bits_bit_6 (by decide) (fun c_2 => ?_) (fun c_2 => ?_)
  · refine lv_iconst (v := 0) hx hb d_Bits_bit_18 (by decide) ?_
    refine lv_goto (tgt := 39) hx hb d_Bits_bit_19 (by decide) ?_
    have hP9 := hP.sub (ws' := [(o, .inr (0, [.ref a, .int b.2])), (a, .inl (cL, 8192, .inr (.inl b.1)))]) [0, 1] rfl
    have hD9 := hD.sub (ws' := [(o, .inr (0, [.ref a, .int b.2])), (a, .inl (cL, 8192, .inr (.inl b.1)))]) [0, 1] (by decide) rfl
    have hK9 := hK
    exact W.iret (v := 0) hx hb hr (fun t ht hW => ⟨⟨0, (), rfl, (by have h9 : f_Bits_bit b k = 0 := (by subst ex_1; exact ((if_pos c_2).trans (rfl))); exact h9.symm), ⟨by rw [ht]; exact hP9, va_K.moved hW.alike hK9, hD9⟩⟩, hS.F ht⟩) hS.2.2 d_Bits_bit_39
  · refine lv_iload_n hx hb d_Bits_bit_9 rfl (lv_at hl 0 rfl) ?_
    refine lv_aload_n hx hb d_Bits_bit_10 rfl (lv_at hl 1 rfl) ?_
    refine va_get (D := (dC, dI)) (ci := 0) (v := .ref a) (C := R_Bits) (T := F_Bits) (N := 2) hx hb hw i_Bits hown hK hP 0 rfl rfl 0 (by decide) (hw _ m_80) (fun _ h9 => h9) rfl d_Bits_bit_11 ?_
    refine va_alen (v := nI 8192) hx hb hK hP 1 1 rfl rfl rfl d_Bits_bit_14 ?_
    refine lv_icmp_lt (tgt := 22) hx hb d_Bits_bit_15 (by decide) (fun c_3 => ?_) (fun c_3 => ?_)
    · refine lv_aload_n hx hb d_Bits_bit_22 rfl (lv_at hl 1 rfl) ?_
      refine va_get (D := (dC, dI)) (ci := 0) (v := .ref a) (C := R_Bits) (T := F_Bits) (N := 2) hx hb hw i_Bits hown hK hP 0 rfl rfl 0 (by decide) (hw _ m_80) (fun _ h9 => h9) rfl d_Bits_bit_23 ?_
      refine lv_iload_n hx hb d_Bits_bit_26 rfl (lv_at hl 0 rfl) ?_
      refine va_lald hx hb hK hP 1 1 rfl rfl (ix_a (by decide) c_2 c_3) d_Bits_bit_27 ?_
      refine lv_bipush (v := 63) hx hb d_Bits_bit_28 (by decide) ?_
      refine lv_iload_n hx hb d_Bits_bit_30 rfl (lv_at hl 2 rfl) ?_
      refine lv_bipush (v := 63) hx hb d_Bits_bit_31 (by decide) ?_
      refine lv_iand hx hb d_Bits_bit_33 ?_
      refine lv_isub hx hb d_Bits_bit_34 ?_
      refine lv_lushr hx hb d_Bits_bit_35 rfl ?_
      refine lv_l2i hx hb d_Bits_bit_36 rfl ?_
      refine lv_iconst (v := 1) hx hb d_Bits_bit_37 (by decide) ?_
      refine lv_iand hx hb d_Bits_bit_38 ?_
      have hP9 := hP.sub (ws' := [(o, .inr (0, [.ref a, .int b.2])), (a, .inl (cL, 8192, .inr (.inl b.1)))]) [0, 1] rfl
      have hD9 := hD.sub (ws' := [(o, .inr (0, [.ref a, .int b.2])), (a, .inl (cL, 8192, .inr (.inl b.1)))]) [0, 1] (by decide) rfl
      have hK9 := hK
      exact W.iret (v := ((((b.1 x_1.toNatClampNeg).toUInt64 >>> ((63 - (k &&& 63)).toInt64.toUInt64 &&& Int64.toUInt64 63)).toInt64).toInt32) &&& 1) hx hb hr (fun t ht hW => ⟨⟨((((b.1 x_1.toNatClampNeg).toUInt64 >>> ((63 - (k &&& 63)).toInt64.toUInt64 &&& Int64.toUInt64 63)).toInt64).toInt32) &&& 1, (), rfl, (by have h9 : f_Bits_bit b k = ((((b.1 x_1.toNatClampNeg).toUInt64 >>> ((63 - (k &&& 63)).toInt64.toUInt64 &&& Int64.toUInt64 63)).toInt64).toInt32) &&& 1 := (by subst ex_1; exact ((if_neg c_2).trans ((if_pos c_3).trans (rfl)))); exact h9.symm), ⟨by rw [ht]; exact hP9, va_K.moved hW.alike hK9, hD9⟩⟩, hS.F ht⟩) hS.2.2 d_Bits_bit_39
    · refine lv_iconst (v := 0) hx hb d_Bits_bit_18 (by decide) ?_
      refine lv_goto (tgt := 39) hx hb d_Bits_bit_19 (by decide) ?_
      have hP9 := hP.sub (ws' := [(o, .inr (0, [.ref a, .int b.2])), (a, .inl (cL, 8192, .inr (.inl b.1)))]) [0, 1] rfl
      have hD9 := hD.sub (ws' := [(o, .inr (0, [.ref a, .int b.2])), (a, .inl (cL, 8192, .inr (.inl b.1)))]) [0, 1] (by decide) rfl
      have hK9 := hK
      exact W.iret (v := 0) hx hb hr (fun t ht hW => ⟨⟨0, (), rfl, (by have h9 : f_Bits_bit b k = 0 := (by subst ex_1; exact ((if_neg c_2).trans ((if_neg c_3).trans (rfl)))); exact h9.symm), ⟨by rw [ht]; exact hP9, va_K.moved hW.alike hK9, hD9⟩⟩, hS.F ht⟩) hS.2.2 d_Bits_bit_39
def f_Bits_add (b : (Nat → Int64) × Int32) (v : Int64) (n : Int32) : Int32 × (((Nat → Int64) × Int32)) := let x_1 := b.2 >>> ((6 : Int32) &&& 31); if n < 1 then ((0, b)) else (if 64 < n then ((0, b)) else (if (524288 - b.2) < n then ((0, b)) else (if x_1 < 0 then ((0, b)) else (if x_1 < (nI 8192) then (let x_7 := v &&& ((((-1) : Int64).toUInt64 >>> ((64 - n).toInt64.toUInt64 &&& Int64.toUInt64 63)).toInt64); let x_8 := 64 - (b.2 &&& 63); if x_8 < n then (let x_10 := (b.1 x_1.toNatClampNeg) ||| ((x_7.toUInt64 >>> ((n - x_8).toInt64.toUInt64 &&& Int64.toUInt64 63)).toInt64); let g_11 := vp_updL b.1 x_1.toNatClampNeg x_10; if (nI 8192) ≤ (x_1 + 1) then (let x_13 := b.2 + n; (1, (g_11, x_13))) else (let x_14 := x_1 + 1; let x_15 := (g_11 x_14.toNatClampNeg) ||| (x_7 <<< ((64 - (n - x_8)).toInt64 &&& 63)); let g_16 := vp_updL g_11 x_14.toNatClampNeg x_15; let x_17 := b.2 + n; (1, (g_16, x_17)))) else (let x_18 := (b.1 x_1.toNatClampNeg) ||| (x_7 <<< ((x_8 - n).toInt64 &&& 63)); let g_19 := vp_updL b.1 x_1.toNatClampNeg x_18; let x_20 := b.2 + n; (1, (g_19, x_20)))) else ((0, b))))))
set_option maxHeartbeats 4000000 in
set_option maxRecDepth 100000 in
theorem c_Bits_add (l : Launch) (dC : Nat → ClassId) (dI : Nat → Nat → Nat) (cI cL : ClassId) (o : Nat) (a : Nat) (sz : Nat) (b : (Nat → Int64) × Int32) (v : Int64) (n : Int32)  : Met l y_Bits_add w_Bits_add ({ frames := 0, cells := 0, slots := 0, locals := 0 }) (va_Pc [.ref o, .long v, .int n] (fun U => U.heap.size = sz ∧ va_P (dC, dI) classes [(o, .inr (0, [.ref a, .int b.2])), (a, .inl (cL, 8192, .inr (.inl b.1)))] U.heap ∧ va_K (dC, dI) classes [(cI, .int), (cL, .long)] U ∧ va_D (fun _ => True) [(o, .inr (0, [.ref a, .int b.2])), (a, .inl (cL, 8192, .inr (.inl b.1)))])) (va_Qi (fun (r : Int32) (u : ((Nat → Int64) × Int32)) => r = (f_Bits_add b v n).1 ∧ u = (f_Bits_add b v n).2) (fun (u : ((Nat → Int64) × Int32)) (t : State) => va_P (dC, dI) classes [(o, .inr (0, [.ref a, .int u.2])), (a, .inl (cL, 8192, .inr (.inl u.1)))] t.heap ∧ va_K (dC, dI) classes [(cI, .int), (cL, .long)] t ∧ va_D (va_A [(o, .inr (0, [.ref a, .int b.2])), (a, .inl (cL, 8192, .inr (.inl b.1)))] sz) [(o, .inr (0, [.ref a, .int u.2])), (a, .inl (cL, 8192, .inr (.inl u.1)))]) (va_A [(o, .inr (0, [.ref a, .int b.2])), (a, .inl (cL, 8192, .inr (.inl b.1)))] sz)) 0 0 (va_A [(o, .inr (0, [.ref a, .int b.2])), (a, .inl (cL, 8192, .inr (.inl b.1)))] sz) := by
  refine Met.ofW (cc := b_Bits_add) (maxL := 8) (ret := (some .boolean)) (by decide) rfl ?_
  intro p e s m args below meth c s₁ B hml hv
  obtain ⟨rfl, hsz, hP, hK, hD0⟩ := hv
  have hx := B.exec
  have hb := B.bytes
  have hr := B.returns
  have hts := atoms_spec (ws := w_Bits_add) B.pre
  have hw : ∀ w ∈ WA, w.before _ s = true := fun w h => hts w (List.mem_cons_of_mem _ h)
  have hown : s.vm.findClass R_Bits = some m.cls := findClass_of_methodNamed B.named
  have hlocks := B.notSynchronized
  subst hsz
  have hD := hD0.self (sz := s.heap.size)
  generalize hAe : va_A [(o, .inr (0, [.ref a, .int b.2])), (a, .inl (cL, 8192, .inr (.inl b.1)))] s.heap.size = A at hD ⊢
  have hA : ∀ q : Nat, s.heap.size ≤ q → A q := fun q h => by rw [← hAe]; exact Or.inr h
  have hS : va_S A s.heap s.heap [] := va_S.rf
  have hP : va_P (dC, dI) classes [(o, .inr (0, [.ref a, .int b.2])), (a, .inl (cL, 8192, .inr (.inl b.1)))] s.heap := hP
  have hl := lv_entry ([.ref o, .long v, .int n]) (n := 8) (Nat.le_of_ble_eq_true rfl)
  rw [lg_entry_eq]
  generalize (lg_sl ([.ref o, .long v, .int n]) ++ List.replicate (8 - (lg_sl ([.ref o, .long v, .int n])).length) Slot.unset).toArray = ls at hl ⊢
  have hl : lv_has ls 8 [(0, .ref o), (1, .long v), (3, .int n)] := hl
  refine lv_aload_n hx hb d_Bits_add_0 rfl (lv_at hl 0 rfl) ?_
  refine va_get (D := (dC, dI)) (ci := 0) (v := .int b.2) (C := R_Bits) (T := F_Bits) (N := 2) hx hb hw i_Bits hown hK hP 0 rfl rfl 1 (by decide) (hw _ m_81) (fun _ h9 => h9) rfl d_Bits_add_1 ?_
  refine lv_bipush (v := 6) hx hb d_Bits_add_4 (by decide) ?_
  refine lv_ishr hx hb d_Bits_add_6 ?_
  refine lv_topi (fun x_1 ex_1 => ?_)
  replace ex_1 := ex_1.symm
  refine lv_istore (lv' := [(4, .int x_1), (0, .ref o), (1, .long v), (3, .int n)]) hx hb d_Bits_add_7 hl (by decide) rfl (fun ls hl => ?_)
  refine lv_iload_n hx hb d_Bits_add_9 rfl (lv_at hl 3 rfl) ?_
  refine lv_iconst (v := 1) hx hb d_Bits_add_10 (by decide) ?_
  refine lv_icmp_lt (tgt := 46) hx hb d_Bits_add_11 (by decide) (fun c_2 => ?_) (fun c_2 => ?_)
  · refine lv_iconst (v := 0) hx hb d_Bits_add_46 (by decide) ?_
    have hP9 := hP.sub (ws' := [(o, .inr (0, [.ref a, .int b.2])), (a, .inl (cL, 8192, .inr (.inl b.1)))]) [0, 1] rfl
    have hD9 := hD.sub (ws' := [(o, .inr (0, [.ref a, .int b.2])), (a, .inl (cL, 8192, .inr (.inl b.1)))]) [0, 1] (by decide) rfl
    have hK9 := hK
    exact W.zret (v := 0) hx hb hr rfl (fun t ht hW => ⟨⟨0, b, rfl, (by have h9 : f_Bits_add b v n = (0, b) := (by subst ex_1; exact ((if_pos c_2).trans (rfl))); exact ⟨(congrArg Prod.fst h9).symm, (congrArg Prod.snd h9).symm⟩), ⟨by rw [ht]; exact hP9, va_K.moved hW.alike hK9, hD9⟩⟩, hS.F ht⟩) hS.2.2 d_Bits_add_47
  · refine lv_iload_n hx hb d_Bits_add_14 rfl (lv_at hl 3 rfl) ?_
    refine lv_bipush (v := 64) hx hb d_Bits_add_15 (by decide) ?_
    refine lv_icmp_gt (tgt := 46) hx hb d_Bits_add_17 (by decide) (fun c_3 => ?_) (fun c_3 => ?_)
    · refine lv_iconst (v := 0) hx hb d_Bits_add_46 (by decide) ?_
      have hP9 := hP.sub (ws' := [(o, .inr (0, [.ref a, .int b.2])), (a, .inl (cL, 8192, .inr (.inl b.1)))]) [0, 1] rfl
      have hD9 := hD.sub (ws' := [(o, .inr (0, [.ref a, .int b.2])), (a, .inl (cL, 8192, .inr (.inl b.1)))]) [0, 1] (by decide) rfl
      have hK9 := hK
      exact W.zret (v := 0) hx hb hr rfl (fun t ht hW => ⟨⟨0, b, rfl, (by have h9 : f_Bits_add b v n = (0, b) := (by subst ex_1; exact ((if_neg c_2).trans ((if_pos c_3).trans (rfl)))); exact ⟨(congrArg Prod.fst h9).symm, (congrArg Prod.snd h9).symm⟩), ⟨by rw [ht]; exact hP9, va_K.moved hW.alike hK9, hD9⟩⟩, hS.F ht⟩) hS.2.2 d_Bits_add_47
    · refine lv_iload_n hx hb d_Bits_add_20 rfl (lv_at hl 3 rfl) ?_
      refine lv_ldc (v := 524288) hx hb hown (hw _ m_350) d_Bits_add_21 ?_
      refine lv_aload_n hx hb d_Bits_add_23 rfl (lv_at hl 1 rfl) ?_
      refine va_get (D := (dC, dI)) (ci := 0) (v := .int b.2) (C := R_Bits) (T := F_Bits) (N := 2) hx hb hw i_Bits hown hK hP 0 rfl rfl 1 (by decide) (hw _ m_81) (fun _ h9 => h9) rfl d_Bits_add_24 ?_
      refine lv_isub hx hb d_Bits_add_27 ?_
      refine lv_icmp_gt (tgt := 46) hx hb d_Bits_add_28 (by decide) (fun c_4 => ?_) (fun c_4 => ?_)
      · refine lv_iconst (v := 0) hx hb d_Bits_add_46 (by decide) ?_
        have hP9 := hP.sub (ws' := [(o, .inr (0, [.ref a, .int b.2])), (a, .inl (cL, 8192, .inr (.inl b.1)))]) [0, 1] rfl
        have hD9 := hD.sub (ws' := [(o, .inr (0, [.ref a, .int b.2])), (a, .inl (cL, 8192, .inr (.inl b.1)))]) [0, 1] (by decide) rfl
        have hK9 := hK
        exact W.zret (v := 0) hx hb hr rfl (fun t ht hW => ⟨⟨0, b, rfl, (by have h9 : f_Bits_add b v n = (0, b) := (by subst ex_1; exact ((if_neg c_2).trans ((if_neg c_3).trans ((if_pos c_4).trans (rfl))))); exact ⟨(congrArg Prod.fst h9).symm, (congrArg Prod.snd h9).symm⟩), ⟨by rw [ht]; exact hP9, va_K.moved hW.alike hK9, hD9⟩⟩, hS.F ht⟩) hS.2.2 d_Bits_add_47
      · refine lv_iload hx hb d_Bits_add_31 (lv_at hl 0 rfl) ?_
        refine lv_if_lt (tgt := 46) hx hb d_Bits_add_33 (by decide) (fun c_5 => ?_) (fun c_5 => ?_)
        · refine lv_iconst (v := 0) hx hb d_Bits_add_46 (by decide) ?_
          have hP9 := hP.sub (ws' := [(o, .inr (0, [.ref a, .int b.2])), (a, .inl (cL, 8192, .inr (.inl b.1)))]) [0, 1] rfl
          have hD9 := hD.sub (ws' := [(o, .inr (0, [.ref a, .int b.2])), (a, .inl (cL, 8192, .inr (.inl b.1)))]) [0, 1] (by decide) rfl
          have hK9 := hK
          exact W.zret (v := 0) hx hb hr rfl (fun t ht hW => ⟨⟨0, b, rfl, (by have h9 : f_Bits_add b v n = (0, b) := (by subst ex_1; exact ((if_neg c_2).trans ((if_neg c_3).trans ((if_neg c_4).trans ((if_pos c_5).trans (rfl)))))); exact ⟨(congrArg Prod.fst h9).symm, (congrArg Prod.snd h9).symm⟩), ⟨by rw [ht]; exact hP9, va_K.moved hW.alike hK9, hD9⟩⟩, hS.F ht⟩) hS.2.2 d_Bits_add_47
        · refine lv_iload hx hb d_Bits_add_36 (lv_at hl 0 rfl) ?_
          refine lv_aload_n hx hb d_Bits_add_38 rfl (lv_at hl 1 rfl) ?_
          refine va_get (D := (dC, dI)) (ci := 0) (v := .ref a) (C := R_Bits) (T := F_Bits) (N := 2) hx hb hw i_Bits hown hK hP 0 rfl rfl 0 (by decide) (hw _ m_80) (fun _ h9 => h9) rfl d_Bits_add_39 ?_
          refine va_alen (v := nI 8192) hx hb hK hP 1 1 rfl rfl rfl d_Bits_add_42 ?_
          refine lv_icmp_lt (tgt := 48) hx hb d_Bits_add_43 (by decide) (fun c_6 => ?_) (fun c_6 => ?_)
          · refine lv_lload_n hx hb d_Bits_add_48 rfl (lv_at hl 2 rfl) ?_
            refine lv_ldc2 (v := (-1)) hx hb hown (hw _ m_326) d_Bits_add_49 ?_
            refine lv_bipush (v := 64) hx hb d_Bits_add_52 (by decide) ?_
            refine lv_iload_n hx hb d_Bits_add_54 rfl (lv_at hl 3 rfl) ?_
            refine lv_isub hx hb d_Bits_add_55 ?_
            refine lv_lushr hx hb d_Bits_add_56 rfl ?_
            refine lv_land hx hb d_Bits_add_57 ?_
            refine lv_topl (fun x_7 ex_7 => ?_)
            replace ex_7 := ex_7.symm
            refine lv_lstore (lv' := [(5, .long x_7), (4, .int x_1), (0, .ref o), (1, .long v), (3, .int n)]) hx hb d_Bits_add_58 hl (by decide) rfl (fun ls hl => ?_)
            refine lv_bipush (v := 64) hx hb d_Bits_add_60 (by decide) ?_
            refine lv_aload_n hx hb d_Bits_add_62 rfl (lv_at hl 2 rfl) ?_
            refine va_get (D := (dC, dI)) (ci := 0) (v := .int b.2) (C := R_Bits) (T := F_Bits) (N := 2) hx hb hw i_Bits hown hK hP 0 rfl rfl 1 (by decide) (hw _ m_81) (fun _ h9 => h9) rfl d_Bits_add_63 ?_
            refine lv_bipush (v := 63) hx hb d_Bits_add_66 (by decide) ?_
            refine lv_iand hx hb d_Bits_add_68 ?_
            refine lv_isub hx hb d_Bits_add_69 ?_
            refine lv_topi (fun x_8 ex_8 => ?_)
            replace ex_8 := ex_8.symm
            refine lv_istore (lv' := [(7, .int x_8), (5, .long x_7), (4, .int x_1), (0, .ref o), (1, .long v), (3, .int n)]) hx hb d_Bits_add_70 hl (by decide) rfl (fun ls hl => ?_)
            refine lv_iload_n hx hb d_Bits_add_72 rfl (lv_at hl 5 rfl) ?_
            refine lv_iload hx hb d_Bits_add_73 (lv_at hl 0 rfl) ?_
            refine lv_icmp_gt (tgt := 98) hx hb d_Bits_add_75 (by decide) (fun c_9 => ?_) (fun c_9 => ?_)
            · refine lv_aload_n hx hb d_Bits_add_98 rfl (lv_at hl 3 rfl) ?_
              refine va_get (D := (dC, dI)) (ci := 0) (v := .ref a) (C := R_Bits) (T := F_Bits) (N := 2) hx hb hw i_Bits hown hK hP 0 rfl rfl 0 (by decide) (hw _ m_80) (fun _ h9 => h9) rfl d_Bits_add_99 ?_
              refine lv_iload hx hb d_Bits_add_102 (lv_at hl 2 rfl) ?_
              refine lv_dup2_11 hx hb d_Bits_add_104 rfl rfl ?_
              refine va_lald hx hb hK hP 1 1 rfl rfl (ix_a (by decide) c_5 c_6) d_Bits_add_105 ?_
              refine lv_lload hx hb d_Bits_add_106 (lv_at hl 1 rfl) ?_
              refine lv_iload_n hx hb d_Bits_add_108 rfl (lv_at hl 5 rfl) ?_
              refine lv_iload hx hb d_Bits_add_109 (lv_at hl 0 rfl) ?_
              refine lv_isub hx hb d_Bits_add_111 ?_
              refine lv_lushr hx hb d_Bits_add_112 rfl ?_
              refine lv_lor hx hb d_Bits_add_113 ?_
              refine lv_topl (fun x_10 ex_10 => ?_)
              replace ex_10 := ex_10.symm
              refine va_last hx hb hK hP hD hS 1 1 rfl rfl (ix_a (by decide) c_5 c_6) d_Bits_add_114 (fun H locs hP hD hS => ?_)
              obtain ⟨g_11, eg_11⟩ : ∃ y : Nat → Int64, y = vp_updL b.1 x_1.toNatClampNeg x_10 := ⟨_, rfl⟩
              rw [← eg_11] at hP hD
              replace eg_11 := eg_11.symm
              have hP : va_P (dC, dI) classes [(o, .inr (0, [.ref a, .int b.2])), (a, .inl (cL, 8192, .inr (.inl g_11)))] H := hP
              have hD : va_D A [(o, .inr (0, [.ref a, .int b.2])), (a, .inl (cL, 8192, .inr (.inl g_11)))] := hD
              refine lv_iload hx hb d_Bits_add_115 (lv_at hl 2 rfl) ?_
              refine lv_iconst (v := 1) hx hb d_Bits_add_117 (by decide) ?_
              refine lv_iadd hx hb d_Bits_add_118 ?_
              refine lv_aload_n hx hb d_Bits_add_119 rfl (lv_at hl 3 rfl) ?_
              refine va_get (D := (dC, dI)) (ci := 0) (v := .ref a) (C := R_Bits) (T := F_Bits) (N := 2) hx hb hw i_Bits hown hK hP 0 rfl rfl 0 (by decide) (hw _ m_80) (fun _ h9 => h9) rfl d_Bits_add_120 ?_
              refine va_alen (v := nI 8192) hx hb hK hP 1 1 rfl rfl rfl d_Bits_add_123 ?_
              refine lv_icmp_ge (tgt := 149) hx hb d_Bits_add_124 (by decide) (fun c_12 => ?_) (fun c_12 => ?_)
              · refine lv_aload_n hx hb d_Bits_add_149 rfl (lv_at hl 3 rfl) ?_
                refine lv_dup hx hb d_Bits_add_150 rfl ?_
                refine va_get (D := (dC, dI)) (ci := 0) (v := .int b.2) (C := R_Bits) (T := F_Bits) (N := 2) hx hb hw i_Bits hown hK hP 0 rfl rfl 1 (by decide) (hw _ m_81) (fun _ h9 => h9) rfl d_Bits_add_151 ?_
                refine lv_iload_n hx hb d_Bits_add_154 rfl (lv_at hl 5 rfl) ?_
                refine lv_iadd hx hb d_Bits_add_155 ?_
                refine lv_topi (fun x_13 ex_13 => ?_)
                replace ex_13 := ex_13.symm
                refine va_put (D := (dC, dI)) (ci := 0) (v := .int x_13) (ty := .int) (C := R_Bits) (T := F_Bits) (N := 2) hx hb hw i_Bits t_Bits t_Bits_ok n_Bits hown hK hP hD hS 0 rfl rfl 1 (by decide) (hw _ m_81) (fun _ h9 => h9) rfl (by decide +kernel) rfl rfl (Nat.le_of_ble_eq_true rfl) d_Bits_add_156 (fun H locs hP hD hS => ?_)
                have hP : va_P (dC, dI) classes [(o, .inr (0, [.ref a, .int x_13])), (a, .inl (cL, 8192, .inr (.inl g_11)))] H := hP
                have hD : va_D A [(o, .inr (0, [.ref a, .int x_13])), (a, .inl (cL, 8192, .inr (.inl g_11)))] := hD
                refine lv_iconst (v := 1) hx hb d_Bits_add_159 (by decide) ?_
                have hP9 := hP.sub (ws' := [(o, .inr (0, [.ref a, .int x_13])), (a, .inl (cL, 8192, .inr (.inl g_11)))]) [0, 1] rfl
                have hD9 := hD.sub (ws' := [(o, .inr (0, [.ref a, .int x_13])), (a, .inl (cL, 8192, .inr (.inl g_11)))]) [0, 1] (by decide) rfl
                have hK9 := hK
                exact W.zret (v := 1) hx hb hr rfl (fun t ht hW => ⟨⟨1, (g_11, x_13), rfl, (by have h9 : f_Bits_add b v n = (1, (g_11, x_13)) := (by subst ex_1 ex_7 ex_8 ex_10 eg_11 ex_13; exact ((if_neg c_2).trans ((if_neg c_3).trans ((if_neg c_4).trans ((if_neg c_5).trans ((if_pos c_6).trans ((if_pos c_9).trans ((if_pos c_12).trans (rfl))))))))); exact ⟨(congrArg Prod.fst h9).symm, (congrArg Prod.snd h9).symm⟩), ⟨by rw [ht]; exact hP9, va_K.moved hW.alike hK9, hD9⟩⟩, hS.F ht⟩) hS.2.2 d_Bits_add_160
              · refine lv_aload_n hx hb d_Bits_add_127 rfl (lv_at hl 3 rfl) ?_
                refine va_get (D := (dC, dI)) (ci := 0) (v := .ref a) (C := R_Bits) (T := F_Bits) (N := 2) hx hb hw i_Bits hown hK hP 0 rfl rfl 0 (by decide) (hw _ m_80) (fun _ h9 => h9) rfl d_Bits_add_128 ?_
                refine lv_iload hx hb d_Bits_add_131 (lv_at hl 2 rfl) ?_
                refine lv_iconst (v := 1) hx hb d_Bits_add_133 (by decide) ?_
                refine lv_iadd hx hb d_Bits_add_134 ?_
                refine lv_topi (fun x_14 ex_14 => ?_)
                replace ex_14 := ex_14.symm
                refine lv_dup2_11 hx hb d_Bits_add_135 rfl rfl ?_
                refine va_lald hx hb hK hP 1 1 rfl rfl (by subst ex_14; exact ix_s (by decide) c_5 c_6 c_12) d_Bits_add_136 ?_
                refine lv_lload hx hb d_Bits_add_137 (lv_at hl 1 rfl) ?_
                refine lv_bipush (v := 64) hx hb d_Bits_add_139 (by decide) ?_
                refine lv_iload_n hx hb d_Bits_add_141 rfl (lv_at hl 5 rfl) ?_
                refine lv_iload hx hb d_Bits_add_142 (lv_at hl 0 rfl) ?_
                refine lv_isub hx hb d_Bits_add_144 ?_
                refine lv_isub hx hb d_Bits_add_145 ?_
                refine lv_lshl hx hb d_Bits_add_146 rfl ?_
                refine lv_lor hx hb d_Bits_add_147 ?_
                refine lv_topl (fun x_15 ex_15 => ?_)
                replace ex_15 := ex_15.symm
                refine va_last hx hb hK hP hD hS 1 1 rfl rfl (by subst ex_14; exact ix_s (by decide) c_5 c_6 c_12) d_Bits_add_148 (fun H locs hP hD hS => ?_)
                obtain ⟨g_16, eg_16⟩ : ∃ y : Nat → Int64, y = vp_updL g_11 x_14.toNatClampNeg x_15 := ⟨_, rfl⟩
                rw [← eg_16] at hP hD
                replace eg_16 := eg_16.symm
                have hP : va_P (dC, dI) classes [(o, .inr (0, [.ref a, .int b.2])), (a, .inl (cL, 8192, .inr (.inl g_16)))] H := hP
                have hD : va_D A [(o, .inr (0, [.ref a, .int b.2])), (a, .inl (cL, 8192, .inr (.inl g_16)))] := hD
                refine lv_aload_n hx hb d_Bits_add_149 rfl (lv_at hl 3 rfl) ?_
                refine lv_dup hx hb d_Bits_add_150 rfl ?_
                refine va_get (D := (dC, dI)) (ci := 0) (v := .int b.2) (C := R_Bits) (T := F_Bits) (N := 2) hx hb hw i_Bits hown hK hP 0 rfl rfl 1 (by decide) (hw _ m_81) (fun _ h9 => h9) rfl d_Bits_add_151 ?_
                refine lv_iload_n hx hb d_Bits_add_154 rfl (lv_at hl 5 rfl) ?_
                refine lv_iadd hx hb d_Bits_add_155 ?_
                refine lv_topi (fun x_17 ex_17 => ?_)
                replace ex_17 := ex_17.symm
                refine va_put (D := (dC, dI)) (ci := 0) (v := .int x_17) (ty := .int) (C := R_Bits) (T := F_Bits) (N := 2) hx hb hw i_Bits t_Bits t_Bits_ok n_Bits hown hK hP hD hS 0 rfl rfl 1 (by decide) (hw _ m_81) (fun _ h9 => h9) rfl (by decide +kernel) rfl rfl (Nat.le_of_ble_eq_true rfl) d_Bits_add_156 (fun H locs hP hD hS => ?_)
                have hP : va_P (dC, dI) classes [(o, .inr (0, [.ref a, .int x_17])), (a, .inl (cL, 8192, .inr (.inl g_16)))] H := hP
                have hD : va_D A [(o, .inr (0, [.ref a, .int x_17])), (a, .inl (cL, 8192, .inr (.inl g_16)))] := hD
                refine lv_iconst (v := 1) hx hb d_Bits_add_159 (by decide) ?_
                have hP9 := hP.sub (ws' := [(o, .inr (0, [.ref a, .int x_17])), (a, .inl (cL, 8192, .inr (.inl g_16)))]) [0, 1] rfl
                have hD9 := hD.sub (ws' := [(o, .inr (0, [.ref a, .int x_17])), (a, .inl (cL, 8192, .inr (.inl g_16)))]) [0, 1] (by decide) rfl
                have hK9 := hK
                exact W.zret (v := 1) hx hb hr rfl (fun t ht hW => ⟨⟨1, (g_16, x_17), rfl, (by have h9 : f_Bits_add b v n = (1, (g_16, x_17)) := (by subst ex_1 ex_7 ex_8 ex_10 eg_11 ex_14 ex_15 eg_16 ex_17; exact ((if_neg c_2).trans ((if_neg c_3).trans ((if_neg c_4).trans ((if_neg c_5).trans ((if_pos c_6).trans ((if_pos c_9).trans ((if_neg c_12).trans (rfl))))))))); exact ⟨(congrArg Prod.fst h9).symm, (congrArg Prod.snd h9).symm⟩), ⟨by rw [ht]; exact hP9, va_K.moved hW.alike hK9, hD9⟩⟩, hS.F ht⟩) hS.2.2 d_Bits_add_160
            · refine lv_aload_n hx hb d_Bits_add_78 rfl (lv_at hl 3 rfl) ?_
              refine va_get (D := (dC, dI)) (ci := 0) (v := .ref a) (C := R_Bits) (T := F_Bits) (N := 2) hx hb hw i_Bits hown hK hP 0 rfl rfl 0 (by decide) (hw _ m_80) (fun _ h9 => h9) rfl d_Bits_add_79 ?_
              refine lv_iload hx hb d_Bits_add_82 (lv_at hl 2 rfl) ?_
              refine lv_dup2_11 hx hb d_Bits_add_84 rfl rfl ?_
              refine va_lald hx hb hK hP 1 1 rfl rfl (ix_a (by decide) c_5 c_6) d_Bits_add_85 ?_
              refine lv_lload hx hb d_Bits_add_86 (lv_at hl 1 rfl) ?_
              refine lv_iload hx hb d_Bits_add_88 (lv_at hl 0 rfl) ?_
              refine lv_iload_n hx hb d_Bits_add_90 rfl (lv_at hl 5 rfl) ?_
              refine lv_isub hx hb d_Bits_add_91 ?_
              refine lv_lshl hx hb d_Bits_add_92 rfl ?_
              refine lv_lor hx hb d_Bits_add_93 ?_
              refine lv_topl (fun x_18 ex_18 => ?_)
              replace ex_18 := ex_18.symm
              refine va_last hx hb hK hP hD hS 1 1 rfl rfl (ix_a (by decide) c_5 c_6) d_Bits_add_94 (fun H locs hP hD hS => ?_)
              obtain ⟨g_19, eg_19⟩ : ∃ y : Nat → Int64, y = vp_updL b.1 x_1.toNatClampNeg x_18 := ⟨_, rfl⟩
              rw [← eg_19] at hP hD
              replace eg_19 := eg_19.symm
              have hP : va_P (dC, dI) classes [(o, .inr (0, [.ref a, .int b.2])), (a, .inl (cL, 8192, .inr (.inl g_19)))] H := hP
              have hD : va_D A [(o, .inr (0, [.ref a, .int b.2])), (a, .inl (cL, 8192, .inr (.inl g_19)))] := hD
              refine lv_goto (tgt := 149) hx hb d_Bits_add_95 (by decide) ?_
              refine lv_aload_n hx hb d_Bits_add_149 rfl (lv_at hl 3 rfl) ?_
              refine lv_dup hx hb d_Bits_add_150 rfl ?_
              refine va_get (D := (dC, dI)) (ci := 0) (v := .int b.2) (C := R_Bits) (T := F_Bits) (N := 2) hx hb hw i_Bits hown hK hP 0 rfl rfl 1 (by decide) (hw _ m_81) (fun _ h9 => h9) rfl d_Bits_add_151 ?_
              refine lv_iload_n hx hb d_Bits_add_154 rfl (lv_at hl 5 rfl) ?_
              refine lv_iadd hx hb d_Bits_add_155 ?_
              refine lv_topi (fun x_20 ex_20 => ?_)
              replace ex_20 := ex_20.symm
              refine va_put (D := (dC, dI)) (ci := 0) (v := .int x_20) (ty := .int) (C := R_Bits) (T := F_Bits) (N := 2) hx hb hw i_Bits t_Bits t_Bits_ok n_Bits hown hK hP hD hS 0 rfl rfl 1 (by decide) (hw _ m_81) (fun _ h9 => h9) rfl (by decide +kernel) rfl rfl (Nat.le_of_ble_eq_true rfl) d_Bits_add_156 (fun H locs hP hD hS => ?_)
              have hP : va_P (dC, dI) classes [(o, .inr (0, [.ref a, .int x_20])), (a, .inl (cL, 8192, .inr (.inl g_19)))] H := hP
              have hD : va_D A [(o, .inr (0, [.ref a, .int x_20])), (a, .inl (cL, 8192, .inr (.inl g_19)))] := hD
              refine lv_iconst (v := 1) hx hb d_Bits_add_159 (by decide) ?_
              have hP9 := hP.sub (ws' := [(o, .inr (0, [.ref a, .int x_20])), (a, .inl (cL, 8192, .inr (.inl g_19)))]) [0, 1] rfl
              have hD9 := hD.sub (ws' := [(o, .inr (0, [.ref a, .int x_20])), (a, .inl (cL, 8192, .inr (.inl g_19)))]) [0, 1] (by decide) rfl
              have hK9 := hK
              exact W.zret (v := 1) hx hb hr rfl (fun t ht hW => ⟨⟨1, (g_19, x_20), rfl, (by have h9 : f_Bits_add b v n = (1, (g_19, x_20)) := (by subst ex_1 ex_7 ex_8 ex_18 eg_19 ex_20; exact ((if_neg c_2).trans ((if_neg c_3).trans ((if_neg c_4).trans ((if_neg c_5).trans ((if_pos c_6).trans ((if_neg c_9).trans (rfl)))))))); exact ⟨(congrArg Prod.fst h9).symm, (congrArg Prod.snd h9).symm⟩), ⟨by rw [ht]; exact hP9, va_K.moved hW.alike hK9, hD9⟩⟩, hS.F ht⟩) hS.2.2 d_Bits_add_160
          · refine lv_iconst (v := 0) hx hb d_Bits_add_46 (by decide) ?_
            have hP9 := hP.sub (ws' := [(o, .inr (0, [.ref a, .int b.2])), (a, .inl (cL, 8192, .inr (.inl b.1)))]) [0, 1] rfl
            have hD9 := hD.sub (ws' := [(o, .inr (0, [.ref a, .int b.2])), (a, .inl (cL, 8192, .inr (.inl b.1)))]) [0, 1] (by decide) rfl
            have hK9 := hK
            exact W.zret (v := 0) hx hb hr rfl (fun t ht hW => ⟨⟨0, b, rfl, (by have h9 : f_Bits_add b v n = (0, b) := (by subst ex_1; exact ((if_neg c_2).trans ((if_neg c_3).trans ((if_neg c_4).trans ((if_neg c_5).trans ((if_neg c_6).trans (rfl))))))); exact ⟨(congrArg Prod.fst h9).symm, (congrArg Prod.snd h9).symm⟩), ⟨by rw [ht]; exact hP9, va_K.moved hW.alike hK9, hD9⟩⟩, hS.F ht⟩) hS.2.2 d_Bits_add_47
def l_Bits_cut_20 (b : (Nat → Int64) × Int32) (to : Int32) : Nat → (Nat → Int64) → Int32 → Int32 → ((Nat → Int64) × Int32)
  | 0, _, _, _ => default
  | n20 + 1, g, k, y2 => if (nI 8192) ≤ k then ((g, to)) else (if ((b.2 - 1) >>> ((6 : Int32) &&& 31)) < k then ((g, to)) else (if k = y2 then (let x_10 := (g k.toNatClampNeg) &&& (((((-1) : Int64).toUInt64 >>> ((to &&& 63).toInt64.toUInt64 &&& Int64.toUInt64 63)).toInt64) ^^^ (-1)); let g_11 := vp_updL g k.toNatClampNeg x_10; let x_12 := k + 1; l_Bits_cut_20 b to n20 g_11 x_12 y2) else (let x_7 := (g k.toNatClampNeg) &&& 0; let g_8 := vp_updL g k.toNatClampNeg x_7; let x_9 := k + 1; l_Bits_cut_20 b to n20 g_8 x_9 y2)))
def f_Bits_cut (b : (Nat → Int64) × Int32) (to : Int32) : ((Nat → Int64) × Int32) := if to < 0 then (b) else (if to < b.2 then (let x_3 := to >>> ((6 : Int32) &&& 31); l_Bits_cut_20 b to (((nI 8192).toInt - Int32.toInt x_3).toNat + 1) b.1 x_3 x_3) else (b))
set_option maxHeartbeats 4000000 in
set_option maxRecDepth 100000 in
theorem c_Bits_cut (l : Launch) (dC : Nat → ClassId) (dI : Nat → Nat → Nat) (cI cL : ClassId) (o : Nat) (a : Nat) (sz : Nat) (b : (Nat → Int64) × Int32) (to : Int32)  : Met l y_Bits_cut w_Bits_cut ({ frames := 0, cells := 0, slots := 0, locals := 0 }) (va_Pc [.ref o, .int to] (fun U => U.heap.size = sz ∧ va_P (dC, dI) classes [(o, .inr (0, [.ref a, .int b.2])), (a, .inl (cL, 8192, .inr (.inl b.1)))] U.heap ∧ va_K (dC, dI) classes [(cI, .int), (cL, .long)] U ∧ va_D (fun _ => True) [(o, .inr (0, [.ref a, .int b.2])), (a, .inl (cL, 8192, .inr (.inl b.1)))])) (va_Qv (fun (u : ((Nat → Int64) × Int32)) => u = f_Bits_cut b to) (fun (u : ((Nat → Int64) × Int32)) (t : State) => va_P (dC, dI) classes [(o, .inr (0, [.ref a, .int u.2])), (a, .inl (cL, 8192, .inr (.inl u.1)))] t.heap ∧ va_K (dC, dI) classes [(cI, .int), (cL, .long)] t ∧ va_D (va_A [(o, .inr (0, [.ref a, .int b.2])), (a, .inl (cL, 8192, .inr (.inl b.1)))] sz) [(o, .inr (0, [.ref a, .int u.2])), (a, .inl (cL, 8192, .inr (.inl u.1)))]) (va_A [(o, .inr (0, [.ref a, .int b.2])), (a, .inl (cL, 8192, .inr (.inl b.1)))] sz)) 0 0 (va_A [(o, .inr (0, [.ref a, .int b.2])), (a, .inl (cL, 8192, .inr (.inl b.1)))] sz) := by
  refine Met.ofW (cc := b_Bits_cut) (maxL := 4) (ret := none) (by decide) rfl ?_
  intro p e s m args below meth c s₁ B hml hv
  obtain ⟨rfl, hsz, hP, hK, hD0⟩ := hv
  have hx := B.exec
  have hb := B.bytes
  have hr := B.returns
  have hts := atoms_spec (ws := w_Bits_cut) B.pre
  have hw : ∀ w ∈ WA, w.before _ s = true := fun w h => hts w (List.mem_cons_of_mem _ h)
  have hown : s.vm.findClass R_Bits = some m.cls := findClass_of_methodNamed B.named
  have hlocks := B.notSynchronized
  subst hsz
  have hD := hD0.self (sz := s.heap.size)
  generalize hAe : va_A [(o, .inr (0, [.ref a, .int b.2])), (a, .inl (cL, 8192, .inr (.inl b.1)))] s.heap.size = A at hD ⊢
  have hA : ∀ q : Nat, s.heap.size ≤ q → A q := fun q h => by rw [← hAe]; exact Or.inr h
  have hS : va_S A s.heap s.heap [] := va_S.rf
  have hP : va_P (dC, dI) classes [(o, .inr (0, [.ref a, .int b.2])), (a, .inl (cL, 8192, .inr (.inl b.1)))] s.heap := hP
  have hl := lv_entry ([.ref o, .int to]) (n := 4) (Nat.le_of_ble_eq_true rfl)
  rw [lg_entry_eq]
  generalize (lg_sl ([.ref o, .int to]) ++ List.replicate (4 - (lg_sl ([.ref o, .int to])).length) Slot.unset).toArray = ls at hl ⊢
  have hl : lv_has ls 4 [(0, .ref o), (1, .int to)] := hl
  refine lv_iload_n hx hb d_Bits_cut_0 rfl (lv_at hl 1 rfl) ?_
  refine lv_if_lt (tgt := 12) hx hb d_Bits_cut_1 (by decide) (fun c_1 => ?_) (fun c_1 => ?_)
  · have hP9 := hP.sub (ws' := [(o, .inr (0, [.ref a, .int b.2])), (a, .inl (cL, 8192, .inr (.inl b.1)))]) [0, 1] rfl
    have hD9 := hD.sub (ws' := [(o, .inr (0, [.ref a, .int b.2])), (a, .inl (cL, 8192, .inr (.inl b.1)))]) [0, 1] (by decide) rfl
    have hK9 := hK
    exact W.vret hx hb hr (fun t ht hW => ⟨⟨b, rfl, (by have h9 : f_Bits_cut b to = b := (by exact ((if_pos c_1).trans (rfl))); exact h9.symm), ⟨by rw [ht]; exact hP9, va_K.moved hW.alike hK9, hD9⟩⟩, hS.F ht⟩) hS.2.2 d_Bits_cut_12
  · refine lv_iload_n hx hb d_Bits_cut_4 rfl (lv_at hl 1 rfl) ?_
    refine lv_aload_n hx hb d_Bits_cut_5 rfl (lv_at hl 0 rfl) ?_
    refine va_get (D := (dC, dI)) (ci := 0) (v := .int b.2) (C := R_Bits) (T := F_Bits) (N := 2) hx hb hw i_Bits hown hK hP 0 rfl rfl 1 (by decide) (hw _ m_81) (fun _ h9 => h9) rfl d_Bits_cut_6 ?_
    refine lv_icmp_lt (tgt := 13) hx hb d_Bits_cut_9 (by decide) (fun c_2 => ?_) (fun c_2 => ?_)
    · refine lv_iload_n hx hb d_Bits_cut_13 rfl (lv_at hl 1 rfl) ?_
      refine lv_bipush (v := 6) hx hb d_Bits_cut_14 (by decide) ?_
      refine lv_ishr hx hb d_Bits_cut_16 ?_
      refine lv_topi (fun x_3 ex_3 => ?_)
      replace ex_3 := ex_3.symm
      refine lv_istore_n (lv' := [(2, .int x_3), (0, .ref o), (1, .int to)]) hx hb d_Bits_cut_17 rfl hl (by decide) rfl (fun ls hl => ?_)
      refine lv_iload_n hx hb d_Bits_cut_18 rfl (lv_at hl 0 rfl) ?_
      refine lv_istore_n (lv' := [(3, .int x_3), (2, .int x_3), (0, .ref o), (1, .int to)]) hx hb d_Bits_cut_19 rfl hl (by decide) rfl (fun ls hl => ?_)
      have hF9 : f_Bits_cut b to = l_Bits_cut_20 b to (((nI 8192).toInt - Int32.toInt x_3).toNat + 1) b.1 x_3 x_3 := (by subst ex_3; exact ((if_neg c_1).trans ((if_pos c_2).trans (rfl))))
      have hI9 : ¬ x_3 < 0 := (by subst ex_3; exact shr_nn c_1)
      have hP9 := hP.sub (ws' := [(o, .inr (0, [.ref a, .int b.2])), (a, .inl (cL, 8192, .inr (.inl b.1)))]) [0, 1] rfl
      have hD9 := hD.sub (ws' := [(o, .inr (0, [.ref a, .int b.2])), (a, .inl (cL, 8192, .inr (.inl b.1)))]) [0, 1] (by decide) rfl
      have hl9 := lv_sub (l' := [(3, .int x_3), (2, .int x_3), (0, .ref o), (1, .int to)]) hl [0, 1, 2, 3] rfl
      refine lp_n (pc := 20) (σ := (Nat → Int64) × Int32 × Int32) (I := fun n v H locs ls => ((nI 8192).toInt - Int32.toInt v.2.1).toNat < n ∧ f_Bits_cut b to = l_Bits_cut_20 b to n v.1 v.2.1 v.2.2 ∧ (¬ v.2.1 < 0) ∧ va_P (dC, dI) classes [(o, .inr (0, [.ref a, .int b.2])), (a, .inl (cL, 8192, .inr (.inl v.1)))] H ∧ va_D A [(o, .inr (0, [.ref a, .int b.2])), (a, .inl (cL, 8192, .inr (.inl v.1)))] ∧ va_S A s.heap H locs ∧ lv_has ls 4 [(3, .int v.2.1), (2, .int v.2.2), (0, .ref o), (1, .int to)]) (fun v H locs ls h => absurd h.1 (Nat.not_lt_zero _)) ?_ (((nI 8192).toInt - Int32.toInt x_3).toNat + 1) (b.1, x_3, x_3) _ _ _ ⟨Nat.lt_succ_self _, hF9, hI9, hP9, hD9, hS, hl9⟩
      intro n20 ih20 v H locs ls hI
      obtain ⟨g, k, y2⟩ := v
      obtain ⟨hmu20, hF20, hinv, hP, hD, hS, hl⟩ := hI
      have hmu20 : ((nI 8192).toInt - Int32.toInt k).toNat < n20 + 1 := hmu20
      have hF20 : f_Bits_cut b to = l_Bits_cut_20 b to (n20 + 1) g k y2 := hF20
      have hinv : ¬ k < 0 := hinv
      have hP : va_P (dC, dI) classes [(o, .inr (0, [.ref a, .int b.2])), (a, .inl (cL, 8192, .inr (.inl g)))] H := hP
      have hD : va_D A [(o, .inr (0, [.ref a, .int b.2])), (a, .inl (cL, 8192, .inr (.inl g)))] := hD
      have hl : lv_has ls 4 [(3, .int k), (2, .int y2), (0, .ref o), (1, .int to)] := hl
      refine lv_iload_n hx hb d_Bits_cut_20 rfl (lv_at hl 0 rfl) ?_
      refine lv_aload_n hx hb d_Bits_cut_21 rfl (lv_at hl 2 rfl) ?_
      refine va_get (D := (dC, dI)) (ci := 0) (v := .ref a) (C := R_Bits) (T := F_Bits) (N := 2) hx hb hw i_Bits hown hK hP 0 rfl rfl 0 (by decide) (hw _ m_80) (fun _ h9 => h9) rfl d_Bits_cut_22 ?_
      refine va_alen (v := nI 8192) hx hb hK hP 1 1 rfl rfl rfl d_Bits_cut_25 ?_
      refine lv_icmp_ge (tgt := 78) hx hb d_Bits_cut_26 (by decide) (fun c_4 => ?_) (fun c_4 => ?_)
      · refine lv_aload_n hx hb d_Bits_cut_78 rfl (lv_at hl 2 rfl) ?_
        refine lv_iload_n hx hb d_Bits_cut_79 rfl (lv_at hl 3 rfl) ?_
        refine va_put (D := (dC, dI)) (ci := 0) (v := .int to) (ty := .int) (C := R_Bits) (T := F_Bits) (N := 2) hx hb hw i_Bits t_Bits t_Bits_ok n_Bits hown hK hP hD hS 0 rfl rfl 1 (by decide) (hw _ m_81) (fun _ h9 => h9) rfl (by decide +kernel) rfl rfl (Nat.le_of_ble_eq_true rfl) d_Bits_cut_80 (fun H locs hP hD hS => ?_)
        have hP : va_P (dC, dI) classes [(o, .inr (0, [.ref a, .int to])), (a, .inl (cL, 8192, .inr (.inl g)))] H := hP
        have hD : va_D A [(o, .inr (0, [.ref a, .int to])), (a, .inl (cL, 8192, .inr (.inl g)))] := hD
        have hP9 := hP.sub (ws' := [(o, .inr (0, [.ref a, .int to])), (a, .inl (cL, 8192, .inr (.inl g)))]) [0, 1] rfl
        have hD9 := hD.sub (ws' := [(o, .inr (0, [.ref a, .int to])), (a, .inl (cL, 8192, .inr (.inl g)))]) [0, 1] (by decide) rfl
        have hK9 := hK
        exact W.vret hx hb hr (fun t ht hW => ⟨⟨(g, to), rfl, (by have h9 : f_Bits_cut b to = (g, to) := (by exact (hF20.trans ((if_pos c_4).trans (rfl)))); exact h9.symm), ⟨by rw [ht]; exact hP9, va_K.moved hW.alike hK9, hD9⟩⟩, hS.F ht⟩) hS.2.2 d_Bits_cut_83
      · refine lv_iload_n hx hb d_Bits_cut_29 rfl (lv_at hl 0 rfl) ?_
        refine lv_aload_n hx hb d_Bits_cut_30 rfl (lv_at hl 2 rfl) ?_
        refine va_get (D := (dC, dI)) (ci := 0) (v := .int b.2) (C := R_Bits) (T := F_Bits) (N := 2) hx hb hw i_Bits hown hK hP 0 rfl rfl 1 (by decide) (hw _ m_81) (fun _ h9 => h9) rfl d_Bits_cut_31 ?_
        refine lv_iconst (v := 1) hx hb d_Bits_cut_34 (by decide) ?_
        refine lv_isub hx hb d_Bits_cut_35 ?_
        refine lv_bipush (v := 6) hx hb d_Bits_cut_36 (by decide) ?_
        refine lv_ishr hx hb d_Bits_cut_38 ?_
        refine lv_icmp_gt (tgt := 78) hx hb d_Bits_cut_39 (by decide) (fun c_5 => ?_) (fun c_5 => ?_)
        · refine lv_aload_n hx hb d_Bits_cut_78 rfl (lv_at hl 2 rfl) ?_
          refine lv_iload_n hx hb d_Bits_cut_79 rfl (lv_at hl 3 rfl) ?_
          refine va_put (D := (dC, dI)) (ci := 0) (v := .int to) (ty := .int) (C := R_Bits) (T := F_Bits) (N := 2) hx hb hw i_Bits t_Bits t_Bits_ok n_Bits hown hK hP hD hS 0 rfl rfl 1 (by decide) (hw _ m_81) (fun _ h9 => h9) rfl (by decide +kernel) rfl rfl (Nat.le_of_ble_eq_true rfl) d_Bits_cut_80 (fun H locs hP hD hS => ?_)
          have hP : va_P (dC, dI) classes [(o, .inr (0, [.ref a, .int to])), (a, .inl (cL, 8192, .inr (.inl g)))] H := hP
          have hD : va_D A [(o, .inr (0, [.ref a, .int to])), (a, .inl (cL, 8192, .inr (.inl g)))] := hD
          have hP9 := hP.sub (ws' := [(o, .inr (0, [.ref a, .int to])), (a, .inl (cL, 8192, .inr (.inl g)))]) [0, 1] rfl
          have hD9 := hD.sub (ws' := [(o, .inr (0, [.ref a, .int to])), (a, .inl (cL, 8192, .inr (.inl g)))]) [0, 1] (by decide) rfl
          have hK9 := hK
          exact W.vret hx hb hr (fun t ht hW => ⟨⟨(g, to), rfl, (by have h9 : f_Bits_cut b to = (g, to) := (by exact (hF20.trans ((if_neg c_4).trans ((if_pos c_5).trans (rfl))))); exact h9.symm), ⟨by rw [ht]; exact hP9, va_K.moved hW.alike hK9, hD9⟩⟩, hS.F ht⟩) hS.2.2 d_Bits_cut_83
        · refine lv_aload_n hx hb d_Bits_cut_42 rfl (lv_at hl 2 rfl) ?_
          refine va_get (D := (dC, dI)) (ci := 0) (v := .ref a) (C := R_Bits) (T := F_Bits) (N := 2) hx hb hw i_Bits hown hK hP 0 rfl rfl 0 (by decide) (hw _ m_80) (fun _ h9 => h9) rfl d_Bits_cut_43 ?_
          refine lv_iload_n hx hb d_Bits_cut_46 rfl (lv_at hl 0 rfl) ?_
          refine lv_dup2_11 hx hb d_Bits_cut_47 rfl rfl ?_
          refine va_lald hx hb hK hP 1 1 rfl rfl (ix_b (by decide) hinv c_4) d_Bits_cut_48 ?_
          refine lv_iload_n hx hb d_Bits_cut_49 rfl (lv_at hl 0 rfl) ?_
          refine lv_iload_n hx hb d_Bits_cut_50 rfl (lv_at hl 1 rfl) ?_
          refine lv_icmp_ne (tgt := 69) hx hb d_Bits_cut_51 (by decide) (fun c_6 => ?_) (fun c_6 => ?_)
          · refine lv_lconst (v := 0) hx hb d_Bits_cut_69 (by decide) ?_
            refine lv_land hx hb d_Bits_cut_70 ?_
            refine lv_topl (fun x_7 ex_7 => ?_)
            replace ex_7 := ex_7.symm
            refine va_last hx hb hK hP hD hS 1 1 rfl rfl (ix_b (by decide) hinv c_4) d_Bits_cut_71 (fun H locs hP hD hS => ?_)
            obtain ⟨g_8, eg_8⟩ : ∃ y : Nat → Int64, y = vp_updL g k.toNatClampNeg x_7 := ⟨_, rfl⟩
            rw [← eg_8] at hP hD
            replace eg_8 := eg_8.symm
            have hP : va_P (dC, dI) classes [(o, .inr (0, [.ref a, .int b.2])), (a, .inl (cL, 8192, .inr (.inl g_8)))] H := hP
            have hD : va_D A [(o, .inr (0, [.ref a, .int b.2])), (a, .inl (cL, 8192, .inr (.inl g_8)))] := hD
            obtain ⟨x_9, ex_9⟩ : ∃ y : Int32, y = k + 1 := ⟨_, rfl⟩
            refine lv_iinc (v := x_9) (lv' := [(3, .int x_9), (2, .int y2), (0, .ref o), (1, .int to)]) hx hb d_Bits_cut_72 hl (k := 0) rfl (by rw [ex_9]; rfl) (by decide) rfl (fun ls hl => ?_)
            replace ex_9 := ex_9.symm
            refine lv_goto (tgt := 20) hx hb d_Bits_cut_75 (by decide) ?_
            have hF9 : f_Bits_cut b to = l_Bits_cut_20 b to n20 g_8 x_9 y2 := (by subst ex_7 eg_8 ex_9; exact (hF20.trans ((if_neg c_4).trans ((if_neg c_5).trans ((if_neg c_6).trans (rfl))))))
            have hI9 : ¬ x_9 < 0 := (by subst ex_7 eg_8 ex_9; exact nn_s (n := 8192) (by decide) hinv c_4)
            have hP9 := hP.sub (ws' := [(o, .inr (0, [.ref a, .int b.2])), (a, .inl (cL, 8192, .inr (.inl g_8)))]) [0, 1] rfl
            have hD9 := hD.sub (ws' := [(o, .inr (0, [.ref a, .int b.2])), (a, .inl (cL, 8192, .inr (.inl g_8)))]) [0, 1] (by decide) rfl
            have hl9 := lv_sub (l' := [(3, .int x_9), (2, .int y2), (0, .ref o), (1, .int to)]) hl [0, 1, 2, 3] rfl
            have hm9 : ((nI 8192).toInt - Int32.toInt x_9).toNat < ((nI 8192).toInt - Int32.toInt k).toNat := (by subst ex_7 eg_8 ex_9; exact mu_b c_4)
            exact ih20 (g_8, x_9, y2) _ _ _ ⟨Nat.lt_of_lt_of_le hm9 (Nat.le_of_lt_succ hmu20), hF9, hI9, hP9, hD9, hS, hl9⟩
          · refine lv_ldc2 (v := (-1)) hx hb hown (hw _ m_326) d_Bits_cut_54 ?_
            refine lv_iload_n hx hb d_Bits_cut_57 rfl (lv_at hl 3 rfl) ?_
            refine lv_bipush (v := 63) hx hb d_Bits_cut_58 (by decide) ?_
            refine lv_iand hx hb d_Bits_cut_60 ?_
            refine lv_lushr hx hb d_Bits_cut_61 rfl ?_
            refine lv_ldc2 (v := (-1)) hx hb hown (hw _ m_326) d_Bits_cut_62 ?_
            refine lv_lxor hx hb d_Bits_cut_65 ?_
            refine lv_goto (tgt := 70) hx hb d_Bits_cut_66 (by decide) ?_
            refine lv_land hx hb d_Bits_cut_70 ?_
            refine lv_topl (fun x_10 ex_10 => ?_)
            replace ex_10 := ex_10.symm
            refine va_last hx hb hK hP hD hS 1 1 rfl rfl (ix_b (by decide) hinv c_4) d_Bits_cut_71 (fun H locs hP hD hS => ?_)
            obtain ⟨g_11, eg_11⟩ : ∃ y : Nat → Int64, y = vp_updL g k.toNatClampNeg x_10 := ⟨_, rfl⟩
            rw [← eg_11] at hP hD
            replace eg_11 := eg_11.symm
            have hP : va_P (dC, dI) classes [(o, .inr (0, [.ref a, .int b.2])), (a, .inl (cL, 8192, .inr (.inl g_11)))] H := hP
            have hD : va_D A [(o, .inr (0, [.ref a, .int b.2])), (a, .inl (cL, 8192, .inr (.inl g_11)))] := hD
            obtain ⟨x_12, ex_12⟩ : ∃ y : Int32, y = k + 1 := ⟨_, rfl⟩
            refine lv_iinc (v := x_12) (lv' := [(3, .int x_12), (2, .int y2), (0, .ref o), (1, .int to)]) hx hb d_Bits_cut_72 hl (k := 0) rfl (by rw [ex_12]; rfl) (by decide) rfl (fun ls hl => ?_)
            replace ex_12 := ex_12.symm
            refine lv_goto (tgt := 20) hx hb d_Bits_cut_75 (by decide) ?_
            have hF9 : f_Bits_cut b to = l_Bits_cut_20 b to n20 g_11 x_12 y2 := (by subst ex_10 eg_11 ex_12; exact (hF20.trans ((if_neg c_4).trans ((if_neg c_5).trans ((if_pos c_6).trans (rfl))))))
            have hI9 : ¬ x_12 < 0 := (by subst ex_10 eg_11 ex_12; exact nn_s (n := 8192) (by decide) hinv c_4)
            have hP9 := hP.sub (ws' := [(o, .inr (0, [.ref a, .int b.2])), (a, .inl (cL, 8192, .inr (.inl g_11)))]) [0, 1] rfl
            have hD9 := hD.sub (ws' := [(o, .inr (0, [.ref a, .int b.2])), (a, .inl (cL, 8192, .inr (.inl g_11)))]) [0, 1] (by decide) rfl
            have hl9 := lv_sub (l' := [(3, .int x_12), (2, .int y2), (0, .ref o), (1, .int to)]) hl [0, 1, 2, 3] rfl
            have hm9 : ((nI 8192).toInt - Int32.toInt x_12).toNat < ((nI 8192).toInt - Int32.toInt k).toNat := (by subst ex_10 eg_11 ex_12; exact mu_b c_4)
            exact ih20 (g_11, x_12, y2) _ _ _ ⟨Nat.lt_of_lt_of_le hm9 (Nat.le_of_lt_succ hmu20), hF9, hI9, hP9, hD9, hS, hl9⟩
    · have hP9 := hP.sub (ws' := [(o, .inr (0, [.ref a, .int b.2])), (a, .inl (cL, 8192, .inr (.inl b.1)))]) [0, 1] rfl
      have hD9 := hD.sub (ws' := [(o, .inr (0, [.ref a, .int b.2])), (a, .inl (cL, 8192, .inr (.inl b.1)))]) [0, 1] (by decide) rfl
      have hK9 := hK
      exact W.vret hx hb hr (fun t ht hW => ⟨⟨b, rfl, (by have h9 : f_Bits_cut b to = b := (by exact ((if_neg c_1).trans ((if_neg c_2).trans (rfl)))); exact h9.symm), ⟨by rw [ht]; exact hP9, va_K.moved hW.alike hK9, hD9⟩⟩, hS.F ht⟩) hS.2.2 d_Bits_cut_12
def l_Bits_become_46 (b2 : (Nat → Int64) × Int32) (b : (Nat → Int64) × Int32) (wo : Int32) : Nat → (Nat → Int64) → Int32 → Int32 → Int32 → Int32 → ((Nat → Int64) × Int32)
  | 0, _, _, _, _, _ => default
  | n46 + 1, g, n, k, y4, y3 => if (nI 8192) ≤ k then (let u_9 := f_Bits_cut (g, n) y4; u_9) else (if y4 ≤ n then (let u_11 := f_Bits_cut (g, n) y4; u_11) else (let r_12 := f_Bits_part b2 k; let r_13 := (f_Bits_add (g, n) r_12 64).1; let u_13 := (f_Bits_add (g, n) r_12 64).2; let x_14 := k + 1; l_Bits_become_46 b2 b wo n46 u_13.1 u_13.2 x_14 y4 y3))
def f_Bits_become (b2 : (Nat → Int64) × Int32) (b : (Nat → Int64) × Int32) (wo : Int32) : ((Nat → Int64) × Int32) := let u_1 := f_Bits_cut b 0; let x_2 := wo / 8; let r_3 := f_Bits_bytes b2; let x_4 := 8 * (r_3 - wo); let r_5 := f_Bits_part b2 x_2; let r_6 := (f_Bits_add u_1 r_5 (64 - (8 * (wo - wo / 8 * 8)))).1; let u_6 := (f_Bits_add u_1 r_5 (64 - (8 * (wo - wo / 8 * 8)))).2; let x_7 := x_2 + 1; l_Bits_become_46 b2 b wo (((nI 8192).toInt - Int32.toInt x_7).toNat + 1) u_6.1 u_6.2 x_7 x_4 x_2
set_option maxHeartbeats 4000000 in
set_option maxRecDepth 100000 in
theorem c_Bits_become (l : Launch) (dC : Nat → ClassId) (dI : Nat → Nat → Nat) (cI cL : ClassId) (o : Nat) (a : Nat) (o2 : Nat) (a2 : Nat) (b2 : (Nat → Int64) × Int32) (sz : Nat) (b : (Nat → Int64) × Int32) (wo : Int32)  : Met l y_Bits_become w_Bits_become ({ frames := 1, cells := 0, slots := 0, locals := 27 }) (va_Pc [.ref o, .ref o2, .int wo] (fun U => U.heap.size = sz ∧ va_P (dC, dI) classes [(o, .inr (0, [.ref a, .int b.2])), (a, .inl (cL, 8192, .inr (.inl b.1))), (o2, .inr (0, [.ref a2, .int b2.2])), (a2, .inl (cL, 8192, .inr (.inl b2.1)))] U.heap ∧ va_K (dC, dI) classes [(cI, .int), (cL, .long)] U ∧ va_D (fun _ => True) [(o, .inr (0, [.ref a, .int b.2])), (a, .inl (cL, 8192, .inr (.inl b.1))), (o2, .inr (0, [.ref a2, .int b2.2])), (a2, .inl (cL, 8192, .inr (.inl b2.1)))])) (va_Qv (fun (u : ((Nat → Int64) × Int32)) => u = f_Bits_become b2 b wo) (fun (u : ((Nat → Int64) × Int32)) (t : State) => va_P (dC, dI) classes [(o, .inr (0, [.ref a, .int u.2])), (a, .inl (cL, 8192, .inr (.inl u.1))), (o2, .inr (0, [.ref a2, .int b2.2])), (a2, .inl (cL, 8192, .inr (.inl b2.1)))] t.heap ∧ va_K (dC, dI) classes [(cI, .int), (cL, .long)] t ∧ va_D (va_A [(o, .inr (0, [.ref a, .int b.2])), (a, .inl (cL, 8192, .inr (.inl b.1))), (o2, .inr (0, [.ref a2, .int b2.2])), (a2, .inl (cL, 8192, .inr (.inl b2.1)))] sz) [(o, .inr (0, [.ref a, .int u.2])), (a, .inl (cL, 8192, .inr (.inl u.1))), (o2, .inr (0, [.ref a2, .int b2.2])), (a2, .inl (cL, 8192, .inr (.inl b2.1)))]) (va_A [(o, .inr (0, [.ref a, .int b.2])), (a, .inl (cL, 8192, .inr (.inl b.1))), (o2, .inr (0, [.ref a2, .int b2.2])), (a2, .inl (cL, 8192, .inr (.inl b2.1)))] sz)) 0 0 (va_A [(o, .inr (0, [.ref a, .int b.2])), (a, .inl (cL, 8192, .inr (.inl b.1))), (o2, .inr (0, [.ref a2, .int b2.2])), (a2, .inl (cL, 8192, .inr (.inl b2.1)))] sz) := by
  refine Met.ofW (cc := b_Bits_become) (maxL := 6) (ret := none) (by decide) rfl ?_
  intro p e s m args below meth c s₁ B hml hv
  obtain ⟨rfl, hsz, hP, hK, hD0⟩ := hv
  have hx := B.exec
  have hb := B.bytes
  have hr := B.returns
  have hts := atoms_spec (ws := w_Bits_become) B.pre
  have hw : ∀ w ∈ WA, w.before _ s = true := fun w h => hts w (List.mem_cons_of_mem _ h)
  have hown : s.vm.findClass R_Bits = some m.cls := findClass_of_methodNamed B.named
  have hlocks := B.notSynchronized
  subst hsz
  have hD := hD0.self (sz := s.heap.size)
  generalize hAe : va_A [(o, .inr (0, [.ref a, .int b.2])), (a, .inl (cL, 8192, .inr (.inl b.1))), (o2, .inr (0, [.ref a2, .int b2.2])), (a2, .inl (cL, 8192, .inr (.inl b2.1)))] s.heap.size = A at hD ⊢
  have hA : ∀ q : Nat, s.heap.size ≤ q → A q := fun q h => by rw [← hAe]; exact Or.inr h
  have hS : va_S A s.heap s.heap [] := va_S.rf
  have hP : va_P (dC, dI) classes [(o, .inr (0, [.ref a, .int b.2])), (a, .inl (cL, 8192, .inr (.inl b.1))), (o2, .inr (0, [.ref a2, .int b2.2])), (a2, .inl (cL, 8192, .inr (.inl b2.1)))] s.heap := hP
  have hl := lv_entry ([.ref o, .ref o2, .int wo]) (n := 6) (Nat.le_of_ble_eq_true rfl)
  rw [lg_entry_eq]
  generalize (lg_sl ([.ref o, .ref o2, .int wo]) ++ List.replicate (6 - (lg_sl ([.ref o, .ref o2, .int wo])).length) Slot.unset).toArray = ls at hl ⊢
  have hl : lv_has ls 6 [(0, .ref o), (1, .ref o2), (2, .int wo)] := hl
  refine lv_aload_n hx hb d_Bits_become_0 rfl (lv_at hl 0 rfl) ?_
  refine lv_iconst (v := 0) hx hb d_Bits_become_1 (by decide) ?_
  have hPc := hP.sub (ws' := [(o, .inr (0, [.ref a, .int b.2])), (a, .inl (cL, 8192, .inr (.inl b.1)))]) [0, 1] rfl
  have hDc := hD.sub (ws' := [(o, .inr (0, [.ref a, .int b.2])), (a, .inl (cL, 8192, .inr (.inl b.1)))]) [0, 1] (by decide) rfl
  have hFc := va_free (wc := [(o, .inr (0, [.ref a, .int b.2])), (a, .inl (cL, 8192, .inr (.inl b.1)))]) hD hS hA [0, 1] rfl
  refine va_callv (va_runV (As := [.int 0]) (rest := []) ⟨hx, hb, hml, hown, hw⟩ (c_Bits_cut l dC dI cI cL o a s.heap.size b 0) (cwV 1 hw (gd_V m_627 m_323 m_324 m_38 m_325) rfl rfl rfl (by decide +kernel) ⟨Nat.le_of_ble_eq_true rfl, Nat.le_of_ble_eq_true rfl⟩) ⟨fun a U g mk q => by obtain ⟨q0, q1, qP, qK, qD⟩ := q; exact ⟨q0, q1, qP, va_K.moved (u := U) (U := U.calling g mk a) (Vm.Alike.refl U.vm) qK, qD⟩, va_recv hK hPc (ci := 0) (q0 := 0) rfl rfl, fun U hU hW => ⟨rfl, by rw [hU], by rw [hU]; exact hPc, va_K.moved hW.alike hK, hDc.weaken (fun _ _ _ _ => trivial)⟩⟩ rfl rfl hl.1 rfl (lv_room (Nat.le_of_ble_eq_true rfl)) d_Bits_become_2 ⟨Nat.le_of_ble_eq_true rfl, Nat.le_of_ble_eq_true rfl⟩) hS (fun q _ h => hFc q h) hFc (fun u_1 t H1 locs ht hvm hq1 hB hz1 hk1 hS => ?_)
  obtain ⟨hP1, hK1, hD1⟩ := hB
  rw [ht] at hP1
  obtain ⟨hP, hD⟩ := va_join (wr := [(o2, .inr (0, [.ref a2, .int b2.2])), (a2, .inl (cL, 8192, .inr (.inl b2.1)))]) (w1 := [(o, .inr (0, [.ref a, .int u_1.2])), (a, .inl (cL, 8192, .inr (.inl u_1.1)))]) hP hD [0, 1] [2, 3] rfl rfl (by decide) (by decide) hk1 hFc hP1 hD1
  generalize H1 = H at hP hS ht ⊢
  have hP : va_P (dC, dI) classes [(o2, .inr (0, [.ref a2, .int b2.2])), (a2, .inl (cL, 8192, .inr (.inl b2.1))), (o, .inr (0, [.ref a, .int u_1.2])), (a, .inl (cL, 8192, .inr (.inl u_1.1)))] H := hP
  have hD : va_D A [(o2, .inr (0, [.ref a2, .int b2.2])), (a2, .inl (cL, 8192, .inr (.inl b2.1))), (o, .inr (0, [.ref a, .int u_1.2])), (a, .inl (cL, 8192, .inr (.inl u_1.1)))] := hD
  have eu_1 : f_Bits_cut b 0 = u_1 := hq1.symm
  refine lv_iload_n hx hb d_Bits_become_5 rfl (lv_at hl 2 rfl) ?_
  refine lv_bipush (v := 8) hx hb d_Bits_become_6 (by decide) ?_
  refine lv_idiv hx hb d_Bits_become_8 (by decide) ?_
  refine lv_topi (fun x_2 ex_2 => ?_)
  replace ex_2 := ex_2.symm
  refine lv_istore_n (lv' := [(3, .int x_2), (0, .ref o), (1, .ref o2), (2, .int wo)]) hx hb d_Bits_become_9 rfl hl (by decide) rfl (fun ls hl => ?_)
  refine lv_bipush (v := 8) hx hb d_Bits_become_10 (by decide) ?_
  refine lv_aload_n hx hb d_Bits_become_12 rfl (lv_at hl 2 rfl) ?_
  have hPc := hP.sub (ws' := [(o2, .inr (0, [.ref a2, .int b2.2])), (a2, .inl (cL, 8192, .inr (.inl b2.1)))]) [0, 1] rfl
  have hDc := hD.sub (ws' := [(o2, .inr (0, [.ref a2, .int b2.2])), (a2, .inl (cL, 8192, .inr (.inl b2.1)))]) [0, 1] (by decide) rfl
  have hFc := va_free (wc := [(o2, .inr (0, [.ref a2, .int b2.2])), (a2, .inl (cL, 8192, .inr (.inl b2.1)))]) hD hS hA [0, 1] rfl
  refine va_calli (va_runV (As := []) (rest := [.int 8]) ⟨hx, hb, hml, hown, hw⟩ (c_Bits_bytes l dC dI cI cL o2 a2 b2 H.size) (cwV 0 hw (gd_V m_628 m_472 m_473 m_38 m_474) rfl rfl rfl (by decide +kernel) ⟨Nat.le_of_ble_eq_true rfl, Nat.le_of_ble_eq_true rfl⟩) ⟨fun a U g mk q => by obtain ⟨q0, q1, qP, qK, qD⟩ := q; exact ⟨q0, q1, qP, va_K.moved (u := U) (U := U.calling g mk a) (Vm.Alike.refl U.vm) qK, qD⟩, va_recv hK hPc (ci := 0) (q0 := 0) rfl rfl, fun U hU hW => ⟨rfl, by rw [hU], by rw [hU]; exact hPc, va_K.moved hW.alike hK, hDc.weaken (fun _ _ _ _ => trivial)⟩⟩ rfl rfl hl.1 rfl (lv_room (Nat.le_of_ble_eq_true rfl)) d_Bits_become_13 ⟨Nat.le_of_ble_eq_true rfl, Nat.le_of_ble_eq_true rfl⟩) hS (fun q _ h => hFc q h) hFc (fun r_3 u_3 t H1 locs ht hvm hq3 hB hz1 hk1 hS => ?_)
  obtain ⟨hP1, hK1, hD1⟩ := hB
  rw [ht] at hP1
  obtain ⟨hP, hD⟩ := va_join (wr := [(o, .inr (0, [.ref a, .int u_1.2])), (a, .inl (cL, 8192, .inr (.inl u_1.1)))]) (w1 := [(o2, .inr (0, [.ref a2, .int b2.2])), (a2, .inl (cL, 8192, .inr (.inl b2.1)))]) hP hD [0, 1] [2, 3] rfl rfl (by decide) (by decide) hk1 hFc hP1 hD1
  generalize H1 = H at hP hS ht ⊢
  have hP : va_P (dC, dI) classes [(o, .inr (0, [.ref a, .int u_1.2])), (a, .inl (cL, 8192, .inr (.inl u_1.1))), (o2, .inr (0, [.ref a2, .int b2.2])), (a2, .inl (cL, 8192, .inr (.inl b2.1)))] H := hP
  have hD : va_D A [(o, .inr (0, [.ref a, .int u_1.2])), (a, .inl (cL, 8192, .inr (.inl u_1.1))), (o2, .inr (0, [.ref a2, .int b2.2])), (a2, .inl (cL, 8192, .inr (.inl b2.1)))] := hD
  have er_3 : f_Bits_bytes b2 = r_3 := hq3.symm
  refine lv_iload_n hx hb d_Bits_become_16 rfl (lv_at hl 3 rfl) ?_
  refine lv_isub hx hb d_Bits_become_17 ?_
  refine lv_imul hx hb d_Bits_become_18 ?_
  refine lv_topi (fun x_4 ex_4 => ?_)
  replace ex_4 := ex_4.symm
  refine lv_istore (lv' := [(4, .int x_4), (3, .int x_2), (0, .ref o), (1, .ref o2), (2, .int wo)]) hx hb d_Bits_become_19 hl (by decide) rfl (fun ls hl => ?_)
  refine lv_aload_n hx hb d_Bits_become_21 rfl (lv_at hl 2 rfl) ?_
  refine lv_aload_n hx hb d_Bits_become_22 rfl (lv_at hl 3 rfl) ?_
  refine lv_iload_n hx hb d_Bits_become_23 rfl (lv_at hl 1 rfl) ?_
  have hPc := hP.sub (ws' := [(o2, .inr (0, [.ref a2, .int b2.2])), (a2, .inl (cL, 8192, .inr (.inl b2.1)))]) [2, 3] rfl
  have hDc := hD.sub (ws' := [(o2, .inr (0, [.ref a2, .int b2.2])), (a2, .inl (cL, 8192, .inr (.inl b2.1)))]) [2, 3] (by decide) rfl
  have hFc := va_free (wc := [(o2, .inr (0, [.ref a2, .int b2.2])), (a2, .inl (cL, 8192, .inr (.inl b2.1)))]) hD hS hA [2, 3] rfl
  refine va_calll (va_runV (As := [.int x_2]) (rest := [.ref o]) ⟨hx, hb, hml, hown, hw⟩ (c_Bits_part l dC dI cI cL o2 a2 b2 H.size x_2) (cwV 1 hw (gd_V m_629 m_339 m_340 m_38 m_341) rfl rfl rfl (by decide +kernel) ⟨Nat.le_of_ble_eq_true rfl, Nat.le_of_ble_eq_true rfl⟩) ⟨fun a U g mk q => by obtain ⟨q0, q1, qP, qK, qD⟩ := q; exact ⟨q0, q1, qP, va_K.moved (u := U) (U := U.calling g mk a) (Vm.Alike.refl U.vm) qK, qD⟩, va_recv hK hPc (ci := 0) (q0 := 0) rfl rfl, fun U hU hW => ⟨rfl, by rw [hU], by rw [hU]; exact hPc, va_K.moved hW.alike hK, hDc.weaken (fun _ _ _ _ => trivial)⟩⟩ rfl rfl hl.1 rfl (lv_room (Nat.le_of_ble_eq_true rfl)) d_Bits_become_24 ⟨Nat.le_of_ble_eq_true rfl, Nat.le_of_ble_eq_true rfl⟩) hS (fun q _ h => hFc q h) hFc (fun r_5 u_5 t H1 locs ht hvm hq5 hB hz1 hk1 hS => ?_)
  obtain ⟨hP1, hK1, hD1⟩ := hB
  rw [ht] at hP1
  obtain ⟨hP, hD⟩ := va_join (wr := [(o, .inr (0, [.ref a, .int u_1.2])), (a, .inl (cL, 8192, .inr (.inl u_1.1)))]) (w1 := [(o2, .inr (0, [.ref a2, .int b2.2])), (a2, .inl (cL, 8192, .inr (.inl b2.1)))]) hP hD [2, 3] [0, 1] rfl rfl (by decide) (by decide) hk1 hFc hP1 hD1
  generalize H1 = H at hP hS ht ⊢
  have hP : va_P (dC, dI) classes [(o, .inr (0, [.ref a, .int u_1.2])), (a, .inl (cL, 8192, .inr (.inl u_1.1))), (o2, .inr (0, [.ref a2, .int b2.2])), (a2, .inl (cL, 8192, .inr (.inl b2.1)))] H := hP
  have hD : va_D A [(o, .inr (0, [.ref a, .int u_1.2])), (a, .inl (cL, 8192, .inr (.inl u_1.1))), (o2, .inr (0, [.ref a2, .int b2.2])), (a2, .inl (cL, 8192, .inr (.inl b2.1)))] := hD
  have er_5 : f_Bits_part b2 x_2 = r_5 := hq5.symm
  refine lv_bipush (v := 64) hx hb d_Bits_become_27 (by decide) ?_
  refine lv_bipush (v := 8) hx hb d_Bits_become_29 (by decide) ?_
  refine lv_iload_n hx hb d_Bits_become_31 rfl (lv_at hl 4 rfl) ?_
  refine lv_bipush (v := 8) hx hb d_Bits_become_32 (by decide) ?_
  refine lv_irem hx hb d_Bits_become_34 (by decide) ?_
  refine lv_imul hx hb d_Bits_become_35 ?_
  refine lv_isub hx hb d_Bits_become_36 ?_
  have hPc := hP.sub (ws' := [(o, .inr (0, [.ref a, .int u_1.2])), (a, .inl (cL, 8192, .inr (.inl u_1.1)))]) [0, 1] rfl
  have hDc := hD.sub (ws' := [(o, .inr (0, [.ref a, .int u_1.2])), (a, .inl (cL, 8192, .inr (.inl u_1.1)))]) [0, 1] (by decide) rfl
  have hFc := va_free (wc := [(o, .inr (0, [.ref a, .int u_1.2])), (a, .inl (cL, 8192, .inr (.inl u_1.1)))]) hD hS hA [0, 1] rfl
  refine va_calli (va_runV (As := [.long r_5, .int (64 - (8 * (wo - wo / 8 * 8)))]) (rest := []) ⟨hx, hb, hml, hown, hw⟩ (c_Bits_add l dC dI cI cL o a H.size u_1 r_5 (64 - (8 * (wo - wo / 8 * 8)))) (cwV 2 hw (gd_V m_630 m_347 m_348 m_38 m_349) rfl rfl rfl (by decide +kernel) ⟨Nat.le_of_ble_eq_true rfl, Nat.le_of_ble_eq_true rfl⟩) ⟨fun a U g mk q => by obtain ⟨q0, q1, qP, qK, qD⟩ := q; exact ⟨q0, q1, qP, va_K.moved (u := U) (U := U.calling g mk a) (Vm.Alike.refl U.vm) qK, qD⟩, va_recv hK hPc (ci := 0) (q0 := 0) rfl rfl, fun U hU hW => ⟨rfl, by rw [hU], by rw [hU]; exact hPc, va_K.moved hW.alike hK, hDc.weaken (fun _ _ _ _ => trivial)⟩⟩ rfl rfl hl.1 rfl (lv_room (Nat.le_of_ble_eq_true rfl)) d_Bits_become_37 ⟨Nat.le_of_ble_eq_true rfl, Nat.le_of_ble_eq_true rfl⟩) hS (fun q _ h => hFc q h) hFc (fun r_6 u_6 t H1 locs ht hvm hq6 hB hz1 hk1 hS => ?_)
  obtain ⟨hP1, hK1, hD1⟩ := hB
  rw [ht] at hP1
  obtain ⟨hP, hD⟩ := va_join (wr := [(o2, .inr (0, [.ref a2, .int b2.2])), (a2, .inl (cL, 8192, .inr (.inl b2.1)))]) (w1 := [(o, .inr (0, [.ref a, .int u_6.2])), (a, .inl (cL, 8192, .inr (.inl u_6.1)))]) hP hD [0, 1] [2, 3] rfl rfl (by decide) (by decide) hk1 hFc hP1 hD1
  generalize H1 = H at hP hS ht ⊢
  have hP : va_P (dC, dI) classes [(o2, .inr (0, [.ref a2, .int b2.2])), (a2, .inl (cL, 8192, .inr (.inl b2.1))), (o, .inr (0, [.ref a, .int u_6.2])), (a, .inl (cL, 8192, .inr (.inl u_6.1)))] H := hP
  have hD : va_D A [(o2, .inr (0, [.ref a2, .int b2.2])), (a2, .inl (cL, 8192, .inr (.inl b2.1))), (o, .inr (0, [.ref a, .int u_6.2])), (a, .inl (cL, 8192, .inr (.inl u_6.1)))] := hD
  have er_6 : (f_Bits_add u_1 r_5 (64 - (8 * (wo - wo / 8 * 8)))).1 = r_6 := hq6.1.symm
  have eu_6 : (f_Bits_add u_1 r_5 (64 - (8 * (wo - wo / 8 * 8)))).2 = u_6 := hq6.2.symm
  refine lv_pop hx hb d_Bits_become_40 rfl ?_
  refine lv_iload_n hx hb d_Bits_become_41 rfl (lv_at hl 1 rfl) ?_
  refine lv_iconst (v := 1) hx hb d_Bits_become_42 (by decide) ?_
  refine lv_iadd hx hb d_Bits_become_43 ?_
  refine lv_topi (fun x_7 ex_7 => ?_)
  replace ex_7 := ex_7.symm
  refine lv_istore (lv' := [(5, .int x_7), (4, .int x_4), (3, .int x_2), (0, .ref o), (1, .ref o2), (2, .int wo)]) hx hb d_Bits_become_44 hl (by decide) rfl (fun ls hl => ?_)
  have hF9 : f_Bits_become b2 b wo = l_Bits_become_46 b2 b wo (((nI 8192).toInt - Int32.toInt x_7).toNat + 1) u_6.1 u_6.2 x_7 x_4 x_2 := (by subst eu_1 ex_2 er_3 ex_4 er_5 er_6 eu_6 ex_7; exact (rfl))
  have hI9 : True := (by subst eu_1 ex_2 er_3 ex_4 er_5 er_6 eu_6 ex_7; trivial)
  have hP9 := hP.sub (ws' := [(o, .inr (0, [.ref a, .int u_6.2])), (a, .inl (cL, 8192, .inr (.inl u_6.1))), (o2, .inr (0, [.ref a2, .int b2.2])), (a2, .inl (cL, 8192, .inr (.inl b2.1)))]) [2, 3, 0, 1] rfl
  have hD9 := hD.sub (ws' := [(o, .inr (0, [.ref a, .int u_6.2])), (a, .inl (cL, 8192, .inr (.inl u_6.1))), (o2, .inr (0, [.ref a2, .int b2.2])), (a2, .inl (cL, 8192, .inr (.inl b2.1)))]) [2, 3, 0, 1] (by decide) rfl
  have hl9 := lv_sub (l' := [(5, .int x_7), (4, .int x_4), (3, .int x_2), (0, .ref o), (1, .ref o2), (2, .int wo)]) hl [0, 1, 2, 3, 4, 5] rfl
  refine lp_n (pc := 46) (σ := (Nat → Int64) × Int32 × Int32 × Int32 × Int32) (I := fun n v H locs ls => ((nI 8192).toInt - Int32.toInt v.2.2.1).toNat < n ∧ f_Bits_become b2 b wo = l_Bits_become_46 b2 b wo n v.1 v.2.1 v.2.2.1 v.2.2.2.1 v.2.2.2.2 ∧ (True) ∧ va_P (dC, dI) classes [(o, .inr (0, [.ref a, .int v.2.1])), (a, .inl (cL, 8192, .inr (.inl v.1))), (o2, .inr (0, [.ref a2, .int b2.2])), (a2, .inl (cL, 8192, .inr (.inl b2.1)))] H ∧ va_D A [(o, .inr (0, [.ref a, .int v.2.1])), (a, .inl (cL, 8192, .inr (.inl v.1))), (o2, .inr (0, [.ref a2, .int b2.2])), (a2, .inl (cL, 8192, .inr (.inl b2.1)))] ∧ va_S A s.heap H locs ∧ lv_has ls 6 [(5, .int v.2.2.1), (4, .int v.2.2.2.1), (3, .int v.2.2.2.2), (0, .ref o), (1, .ref o2), (2, .int wo)]) (fun v H locs ls h => absurd h.1 (Nat.not_lt_zero _)) ?_ (((nI 8192).toInt - Int32.toInt x_7).toNat + 1) (u_6.1, u_6.2, x_7, x_4, x_2) _ _ _ ⟨Nat.lt_succ_self _, hF9, hI9, hP9, hD9, hS, hl9⟩
  intro n46 ih46 v H locs ls hI
  obtain ⟨g, n, k, y4, y3⟩ := v
  obtain ⟨hmu46, hF46, hinv, hP, hD, hS, hl⟩ := hI
  have hmu46 : ((nI 8192).toInt - Int32.toInt k).toNat < n46 + 1 := hmu46
  have hF46 : f_Bits_become b2 b wo = l_Bits_become_46 b2 b wo (n46 + 1) g n k y4 y3 := hF46
  have hP : va_P (dC, dI) classes [(o, .inr (0, [.ref a, .int n])), (a, .inl (cL, 8192, .inr (.inl g))), (o2, .inr (0, [.ref a2, .int b2.2])), (a2, .inl (cL, 8192, .inr (.inl b2.1)))] H := hP
  have hD : va_D A [(o, .inr (0, [.ref a, .int n])), (a, .inl (cL, 8192, .inr (.inl g))), (o2, .inr (0, [.ref a2, .int b2.2])), (a2, .inl (cL, 8192, .inr (.inl b2.1)))] := hD
  have hl : lv_has ls 6 [(5, .int k), (4, .int y4), (3, .int y3), (0, .ref o), (1, .ref o2), (2, .int wo)] := hl
  refine lv_iload hx hb d_Bits_become_46 (lv_at hl 0 rfl) ?_
  refine lv_aload_n hx hb d_Bits_become_48 rfl (lv_at hl 3 rfl) ?_
  refine va_get (D := (dC, dI)) (ci := 0) (v := .ref a) (C := R_Bits) (T := F_Bits) (N := 2) hx hb hw i_Bits hown hK hP 0 rfl rfl 0 (by decide) (hw _ m_80) (fun _ h9 => h9) rfl d_Bits_become_49 ?_
  refine va_alen (v := nI 8192) hx hb hK hP 1 1 rfl rfl rfl d_Bits_become_52 ?_
  refine lv_icmp_ge (tgt := 84) hx hb d_Bits_become_53 (by decide) (fun c_8 => ?_) (fun c_8 => ?_)
  · refine lv_aload_n hx hb d_Bits_become_84 rfl (lv_at hl 3 rfl) ?_
    refine lv_iload hx hb d_Bits_become_85 (lv_at hl 1 rfl) ?_
    have hPc := hP.sub (ws' := [(o, .inr (0, [.ref a, .int n])), (a, .inl (cL, 8192, .inr (.inl g)))]) [0, 1] rfl
    have hDc := hD.sub (ws' := [(o, .inr (0, [.ref a, .int n])), (a, .inl (cL, 8192, .inr (.inl g)))]) [0, 1] (by decide) rfl
    have hFc := va_free (wc := [(o, .inr (0, [.ref a, .int n])), (a, .inl (cL, 8192, .inr (.inl g)))]) hD hS hA [0, 1] rfl
    refine va_callv (va_runV (As := [.int y4]) (rest := []) ⟨hx, hb, hml, hown, hw⟩ (c_Bits_cut l dC dI cI cL o a H.size (g, n) y4) (cwV 1 hw (gd_V m_627 m_323 m_324 m_38 m_325) rfl rfl rfl (by decide +kernel) ⟨Nat.le_of_ble_eq_true rfl, Nat.le_of_ble_eq_true rfl⟩) ⟨fun a U g mk q => by obtain ⟨q0, q1, qP, qK, qD⟩ := q; exact ⟨q0, q1, qP, va_K.moved (u := U) (U := U.calling g mk a) (Vm.Alike.refl U.vm) qK, qD⟩, va_recv hK hPc (ci := 0) (q0 := 0) rfl rfl, fun U hU hW => ⟨rfl, by rw [hU], by rw [hU]; exact hPc, va_K.moved hW.alike hK, hDc.weaken (fun _ _ _ _ => trivial)⟩⟩ rfl rfl hl.1 rfl (lv_room (Nat.le_of_ble_eq_true rfl)) d_Bits_become_87 ⟨Nat.le_of_ble_eq_true rfl, Nat.le_of_ble_eq_true rfl⟩) hS (fun q _ h => hFc q h) hFc (fun u_9 t H1 locs ht hvm hq9 hB hz1 hk1 hS => ?_)
    obtain ⟨hP1, hK1, hD1⟩ := hB
    rw [ht] at hP1
    obtain ⟨hP, hD⟩ := va_join (wr := [(o2, .inr (0, [.ref a2, .int b2.2])), (a2, .inl (cL, 8192, .inr (.inl b2.1)))]) (w1 := [(o, .inr (0, [.ref a, .int u_9.2])), (a, .inl (cL, 8192, .inr (.inl u_9.1)))]) hP hD [0, 1] [2, 3] rfl rfl (by decide) (by decide) hk1 hFc hP1 hD1
    generalize H1 = H at hP hS ht ⊢
    have hP : va_P (dC, dI) classes [(o2, .inr (0, [.ref a2, .int b2.2])), (a2, .inl (cL, 8192, .inr (.inl b2.1))), (o, .inr (0, [.ref a, .int u_9.2])), (a, .inl (cL, 8192, .inr (.inl u_9.1)))] H := hP
    have hD : va_D A [(o2, .inr (0, [.ref a2, .int b2.2])), (a2, .inl (cL, 8192, .inr (.inl b2.1))), (o, .inr (0, [.ref a, .int u_9.2])), (a, .inl (cL, 8192, .inr (.inl u_9.1)))] := hD
    have eu_9 : f_Bits_cut (g, n) y4 = u_9 := hq9.symm
    have hP9 := hP.sub (ws' := [(o, .inr (0, [.ref a, .int u_9.2])), (a, .inl (cL, 8192, .inr (.inl u_9.1))), (o2, .inr (0, [.ref a2, .int b2.2])), (a2, .inl (cL, 8192, .inr (.inl b2.1)))]) [2, 3, 0, 1] rfl
    have hD9 := hD.sub (ws' := [(o, .inr (0, [.ref a, .int u_9.2])), (a, .inl (cL, 8192, .inr (.inl u_9.1))), (o2, .inr (0, [.ref a2, .int b2.2])), (a2, .inl (cL, 8192, .inr (.inl b2.1)))]) [2, 3, 0, 1] (by decide) rfl
    have hK9 := hK
    exact W.vret hx hb hr (fun t ht hW => ⟨⟨u_9, rfl, (by have h9 : f_Bits_become b2 b wo = u_9 := (by subst eu_9; exact (hF46.trans ((if_pos c_8).trans (rfl)))); exact h9.symm), ⟨by rw [ht]; exact hP9, va_K.moved hW.alike hK9, hD9⟩⟩, hS.F ht⟩) hS.2.2 d_Bits_become_90
  · refine lv_aload_n hx hb d_Bits_become_56 rfl (lv_at hl 3 rfl) ?_
    refine va_get (D := (dC, dI)) (ci := 0) (v := .int n) (C := R_Bits) (T := F_Bits) (N := 2) hx hb hw i_Bits hown hK hP 0 rfl rfl 1 (by decide) (hw _ m_81) (fun _ h9 => h9) rfl d_Bits_become_57 ?_
    refine lv_iload hx hb d_Bits_become_60 (lv_at hl 1 rfl) ?_
    refine lv_icmp_ge (tgt := 84) hx hb d_Bits_become_62 (by decide) (fun c_10 => ?_) (fun c_10 => ?_)
    · refine lv_aload_n hx hb d_Bits_become_84 rfl (lv_at hl 3 rfl) ?_
      refine lv_iload hx hb d_Bits_become_85 (lv_at hl 1 rfl) ?_
      have hPc := hP.sub (ws' := [(o, .inr (0, [.ref a, .int n])), (a, .inl (cL, 8192, .inr (.inl g)))]) [0, 1] rfl
      have hDc := hD.sub (ws' := [(o, .inr (0, [.ref a, .int n])), (a, .inl (cL, 8192, .inr (.inl g)))]) [0, 1] (by decide) rfl
      have hFc := va_free (wc := [(o, .inr (0, [.ref a, .int n])), (a, .inl (cL, 8192, .inr (.inl g)))]) hD hS hA [0, 1] rfl
      refine va_callv (va_runV (As := [.int y4]) (rest := []) ⟨hx, hb, hml, hown, hw⟩ (c_Bits_cut l dC dI cI cL o a H.size (g, n) y4) (cwV 1 hw (gd_V m_627 m_323 m_324 m_38 m_325) rfl rfl rfl (by decide +kernel) ⟨Nat.le_of_ble_eq_true rfl, Nat.le_of_ble_eq_true rfl⟩) ⟨fun a U g mk q => by obtain ⟨q0, q1, qP, qK, qD⟩ := q; exact ⟨q0, q1, qP, va_K.moved (u := U) (U := U.calling g mk a) (Vm.Alike.refl U.vm) qK, qD⟩, va_recv hK hPc (ci := 0) (q0 := 0) rfl rfl, fun U hU hW => ⟨rfl, by rw [hU], by rw [hU]; exact hPc, va_K.moved hW.alike hK, hDc.weaken (fun _ _ _ _ => trivial)⟩⟩ rfl rfl hl.1 rfl (lv_room (Nat.le_of_ble_eq_true rfl)) d_Bits_become_87 ⟨Nat.le_of_ble_eq_true rfl, Nat.le_of_ble_eq_true rfl⟩) hS (fun q _ h => hFc q h) hFc (fun u_11 t H1 locs ht hvm hq11 hB hz1 hk1 hS => ?_)
      obtain ⟨hP1, hK1, hD1⟩ := hB
      rw [ht] at hP1
      obtain ⟨hP, hD⟩ := va_join (wr := [(o2, .inr (0, [.ref a2, .int b2.2])), (a2, .inl (cL, 8192, .inr (.inl b2.1)))]) (w1 := [(o, .inr (0, [.ref a, .int u_11.2])), (a, .inl (cL, 8192, .inr (.inl u_11.1)))]) hP hD [0, 1] [2, 3] rfl rfl (by decide) (by decide) hk1 hFc hP1 hD1
      generalize H1 = H at hP hS ht ⊢
      have hP : va_P (dC, dI) classes [(o2, .inr (0, [.ref a2, .int b2.2])), (a2, .inl (cL, 8192, .inr (.inl b2.1))), (o, .inr (0, [.ref a, .int u_11.2])), (a, .inl (cL, 8192, .inr (.inl u_11.1)))] H := hP
      have hD : va_D A [(o2, .inr (0, [.ref a2, .int b2.2])), (a2, .inl (cL, 8192, .inr (.inl b2.1))), (o, .inr (0, [.ref a, .int u_11.2])), (a, .inl (cL, 8192, .inr (.inl u_11.1)))] := hD
      have eu_11 : f_Bits_cut (g, n) y4 = u_11 := hq11.symm
      have hP9 := hP.sub (ws' := [(o, .inr (0, [.ref a, .int u_11.2])), (a, .inl (cL, 8192, .inr (.inl u_11.1))), (o2, .inr (0, [.ref a2, .int b2.2])), (a2, .inl (cL, 8192, .inr (.inl b2.1)))]) [2, 3, 0, 1] rfl
      have hD9 := hD.sub (ws' := [(o, .inr (0, [.ref a, .int u_11.2])), (a, .inl (cL, 8192, .inr (.inl u_11.1))), (o2, .inr (0, [.ref a2, .int b2.2])), (a2, .inl (cL, 8192, .inr (.inl b2.1)))]) [2, 3, 0, 1] (by decide) rfl
      have hK9 := hK
      exact W.vret hx hb hr (fun t ht hW => ⟨⟨u_11, rfl, (by have h9 : f_Bits_become b2 b wo = u_11 := (by subst eu_11; exact (hF46.trans ((if_neg c_8).trans ((if_pos c_10).trans (rfl))))); exact h9.symm), ⟨by rw [ht]; exact hP9, va_K.moved hW.alike hK9, hD9⟩⟩, hS.F ht⟩) hS.2.2 d_Bits_become_90
    · refine lv_aload_n hx hb d_Bits_become_65 rfl (lv_at hl 3 rfl) ?_
      refine lv_aload_n hx hb d_Bits_become_66 rfl (lv_at hl 4 rfl) ?_
      refine lv_iload hx hb d_Bits_become_67 (lv_at hl 0 rfl) ?_
      have hPc := hP.sub (ws' := [(o2, .inr (0, [.ref a2, .int b2.2])), (a2, .inl (cL, 8192, .inr (.inl b2.1)))]) [2, 3] rfl
      have hDc := hD.sub (ws' := [(o2, .inr (0, [.ref a2, .int b2.2])), (a2, .inl (cL, 8192, .inr (.inl b2.1)))]) [2, 3] (by decide) rfl
      have hFc := va_free (wc := [(o2, .inr (0, [.ref a2, .int b2.2])), (a2, .inl (cL, 8192, .inr (.inl b2.1)))]) hD hS hA [2, 3] rfl
      refine va_calll (va_runV (As := [.int k]) (rest := [.ref o]) ⟨hx, hb, hml, hown, hw⟩ (c_Bits_part l dC dI cI cL o2 a2 b2 H.size k) (cwV 1 hw (gd_V m_629 m_339 m_340 m_38 m_341) rfl rfl rfl (by decide +kernel) ⟨Nat.le_of_ble_eq_true rfl, Nat.le_of_ble_eq_true rfl⟩) ⟨fun a U g mk q => by obtain ⟨q0, q1, qP, qK, qD⟩ := q; exact ⟨q0, q1, qP, va_K.moved (u := U) (U := U.calling g mk a) (Vm.Alike.refl U.vm) qK, qD⟩, va_recv hK hPc (ci := 0) (q0 := 0) rfl rfl, fun U hU hW => ⟨rfl, by rw [hU], by rw [hU]; exact hPc, va_K.moved hW.alike hK, hDc.weaken (fun _ _ _ _ => trivial)⟩⟩ rfl rfl hl.1 rfl (lv_room (Nat.le_of_ble_eq_true rfl)) d_Bits_become_69 ⟨Nat.le_of_ble_eq_true rfl, Nat.le_of_ble_eq_true rfl⟩) hS (fun q _ h => hFc q h) hFc (fun r_12 u_12 t H1 locs ht hvm hq12 hB hz1 hk1 hS => ?_)
      obtain ⟨hP1, hK1, hD1⟩ := hB
      rw [ht] at hP1
      obtain ⟨hP, hD⟩ := va_join (wr := [(o, .inr (0, [.ref a, .int n])), (a, .inl (cL, 8192, .inr (.inl g)))]) (w1 := [(o2, .inr (0, [.ref a2, .int b2.2])), (a2, .inl (cL, 8192, .inr (.inl b2.1)))]) hP hD [2, 3] [0, 1] rfl rfl (by decide) (by decide) hk1 hFc hP1 hD1
      generalize H1 = H at hP hS ht ⊢
      have hP : va_P (dC, dI) classes [(o, .inr (0, [.ref a, .int n])), (a, .inl (cL, 8192, .inr (.inl g))), (o2, .inr (0, [.ref a2, .int b2.2])), (a2, .inl (cL, 8192, .inr (.inl b2.1)))] H := hP
      have hD : va_D A [(o, .inr (0, [.ref a, .int n])), (a, .inl (cL, 8192, .inr (.inl g))), (o2, .inr (0, [.ref a2, .int b2.2])), (a2, .inl (cL, 8192, .inr (.inl b2.1)))] := hD
      have er_12 : f_Bits_part b2 k = r_12 := hq12.symm
      refine lv_bipush (v := 64) hx hb d_Bits_become_72 (by decide) ?_
      have hPc := hP.sub (ws' := [(o, .inr (0, [.ref a, .int n])), (a, .inl (cL, 8192, .inr (.inl g)))]) [0, 1] rfl
      have hDc := hD.sub (ws' := [(o, .inr (0, [.ref a, .int n])), (a, .inl (cL, 8192, .inr (.inl g)))]) [0, 1] (by decide) rfl
      have hFc := va_free (wc := [(o, .inr (0, [.ref a, .int n])), (a, .inl (cL, 8192, .inr (.inl g)))]) hD hS hA [0, 1] rfl
      refine va_calli (va_runV (As := [.long r_12, .int 64]) (rest := []) ⟨hx, hb, hml, hown, hw⟩ (c_Bits_add l dC dI cI cL o a H.size (g, n) r_12 64) (cwV 2 hw (gd_V m_630 m_347 m_348 m_38 m_349) rfl rfl rfl (by decide +kernel) ⟨Nat.le_of_ble_eq_true rfl, Nat.le_of_ble_eq_true rfl⟩) ⟨fun a U g mk q => by obtain ⟨q0, q1, qP, qK, qD⟩ := q; exact ⟨q0, q1, qP, va_K.moved (u := U) (U := U.calling g mk a) (Vm.Alike.refl U.vm) qK, qD⟩, va_recv hK hPc (ci := 0) (q0 := 0) rfl rfl, fun U hU hW => ⟨rfl, by rw [hU], by rw [hU]; exact hPc, va_K.moved hW.alike hK, hDc.weaken (fun _ _ _ _ => trivial)⟩⟩ rfl rfl hl.1 rfl (lv_room (Nat.le_of_ble_eq_true rfl)) d_Bits_become_74 ⟨Nat.le_of_ble_eq_true rfl, Nat.le_of_ble_eq_true rfl⟩) hS (fun q _ h => hFc q h) hFc (fun r_13 u_13 t H1 locs ht hvm hq13 hB hz1 hk1 hS => ?_)
      obtain ⟨hP1, hK1, hD1⟩ := hB
      rw [ht] at hP1
      obtain ⟨hP, hD⟩ := va_join (wr := [(o2, .inr (0, [.ref a2, .int b2.2])), (a2, .inl (cL, 8192, .inr (.inl b2.1)))]) (w1 := [(o, .inr (0, [.ref a, .int u_13.2])), (a, .inl (cL, 8192, .inr (.inl u_13.1)))]) hP hD [0, 1] [2, 3] rfl rfl (by decide) (by decide) hk1 hFc hP1 hD1
      generalize H1 = H at hP hS ht ⊢
      have hP : va_P (dC, dI) classes [(o2, .inr (0, [.ref a2, .int b2.2])), (a2, .inl (cL, 8192, .inr (.inl b2.1))), (o, .inr (0, [.ref a, .int u_13.2])), (a, .inl (cL, 8192, .inr (.inl u_13.1)))] H := hP
      have hD : va_D A [(o2, .inr (0, [.ref a2, .int b2.2])), (a2, .inl (cL, 8192, .inr (.inl b2.1))), (o, .inr (0, [.ref a, .int u_13.2])), (a, .inl (cL, 8192, .inr (.inl u_13.1)))] := hD
      have er_13 : (f_Bits_add (g, n) r_12 64).1 = r_13 := hq13.1.symm
      have eu_13 : (f_Bits_add (g, n) r_12 64).2 = u_13 := hq13.2.symm
      refine lv_pop hx hb d_Bits_become_77 rfl ?_
      obtain ⟨x_14, ex_14⟩ : ∃ y : Int32, y = k + 1 := ⟨_, rfl⟩
      refine lv_iinc (v := x_14) (lv' := [(5, .int x_14), (4, .int y4), (3, .int y3), (0, .ref o), (1, .ref o2), (2, .int wo)]) hx hb d_Bits_become_78 hl (k := 0) rfl (by rw [ex_14]; rfl) (by decide) rfl (fun ls hl => ?_)
      replace ex_14 := ex_14.symm
      refine lv_goto (tgt := 46) hx hb d_Bits_become_81 (by decide) ?_
      have hF9 : f_Bits_become b2 b wo = l_Bits_become_46 b2 b wo n46 u_13.1 u_13.2 x_14 y4 y3 := (by subst er_12 er_13 eu_13 ex_14; exact (hF46.trans ((if_neg c_8).trans ((if_neg c_10).trans (rfl)))))
      have hI9 : True := (by subst er_12 er_13 eu_13 ex_14; trivial)
      have hP9 := hP.sub (ws' := [(o, .inr (0, [.ref a, .int u_13.2])), (a, .inl (cL, 8192, .inr (.inl u_13.1))), (o2, .inr (0, [.ref a2, .int b2.2])), (a2, .inl (cL, 8192, .inr (.inl b2.1)))]) [2, 3, 0, 1] rfl
      have hD9 := hD.sub (ws' := [(o, .inr (0, [.ref a, .int u_13.2])), (a, .inl (cL, 8192, .inr (.inl u_13.1))), (o2, .inr (0, [.ref a2, .int b2.2])), (a2, .inl (cL, 8192, .inr (.inl b2.1)))]) [2, 3, 0, 1] (by decide) rfl
      have hl9 := lv_sub (l' := [(5, .int x_14), (4, .int y4), (3, .int y3), (0, .ref o), (1, .ref o2), (2, .int wo)]) hl [0, 1, 2, 3, 4, 5] rfl
      have hm9 : ((nI 8192).toInt - Int32.toInt x_14).toNat < ((nI 8192).toInt - Int32.toInt k).toNat := (by subst er_12 er_13 eu_13 ex_14; exact mu_b c_8)
      exact ih46 (u_13.1, u_13.2, x_14, y4, y3) _ _ _ ⟨Nat.lt_of_lt_of_le hm9 (Nat.le_of_lt_succ hmu46), hF9, hI9, hP9, hD9, hS, hl9⟩
