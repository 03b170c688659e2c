set_option maxHeartbeats 4000000 in
set_option maxRecDepth 100000 in
theorem c_Bits_init (l : Launch) (dC : Nat → ClassId) (dI : Nat → Nat → Nat) (cI cL : ClassId) (o : Nat) (sz : Nat)    : Met l y_Bits_init w_Bits_init ({ frames := 1, cells := 1, slots := 8192, locals := 20 }) (va_Pc [.ref o] (fun U => U.heap.size = sz ∧ va_P (dC, dI) classes [(o, .inr (0, [.null, .int 0]))] U.heap ∧ va_K (dC, dI) classes [(cI, .int), (cL, .long)] U ∧ va_D (fun _ => True) [(o, .inr (0, [.null, .int 0]))])) (va_Qv (fun (u : Nat) => True) (fun (u : Nat) (t : State) => va_P (dC, dI) classes [(o, .inr (0, [.ref u, .int 0])), (u, .inl (cL, 8192, .inr (.inl (fun _ => 0))))] t.heap ∧ va_K (dC, dI) classes [(cI, .int), (cL, .long)] t ∧ va_D (va_A [(o, .inr (0, [.null, .int 0]))] sz) [(o, .inr (0, [.ref u, .int 0])), (u, .inl (cL, 8192, .inr (.inl (fun _ => 0))))]) (va_A [(o, .inr (0, [.null, .int 0]))] sz)) 1 8192 (va_A [(o, .inr (0, [.null, .int 0]))] sz) := by
  refine Met.ofW (cc := b_Bits_init) (maxL := 1) (ret := none) (by decide) rfl ?_
  intro p e s m args below meth c s₁ B hml hv
  obtain ⟨rfl, hsz, hP, hK, hD0⟩ := hv
  have hx := B.exec
  have hb := B.bytes
  have hr := B.returns
  have hts := atoms_spec (ws := w_Bits_init) B.pre
  have hw : ∀ w ∈ WA, w.before _ s = true := fun w h => hts w (List.mem_cons_of_mem _ h)
  have hown : s.vm.findClass R_Bits = some m.cls := findClass_of_methodNamed B.named
  have hlocks := B.notSynchronized
  have hin : meth.name = "<init>" := (name_of_methodNamed B.named B.method).1
  subst hsz
  have hD := hD0.self (sz := s.heap.size)
  generalize hAe : va_A [(o, .inr (0, [.null, .int 0]))] s.heap.size = A at hD ⊢
  have hA : ∀ q : Nat, s.heap.size ≤ q → A q := fun q h => by rw [← hAe]; exact Or.inr h
  have hS : va_S A s.heap s.heap [] := va_S.rf
  have hP : va_P (dC, dI) classes [(o, .inr (0, [.null, .int 0]))] s.heap := hP
  have hl := lv_entry ([.ref o]) (n := 1) (Nat.le_of_ble_eq_true rfl)
  rw [lg_entry_eq]
  generalize (lg_sl ([.ref o]) ++ List.replicate (1 - (lg_sl ([.ref o])).length) Slot.unset).toArray = ls at hl ⊢
  have hl : lv_has ls 1 [(0, .ref o)] := hl
  refine lv_aload_n hx hb d_Bits_init_0 rfl (lv_at hl 0 rfl) ?_
  refine W.objInit hx hb hown (hw _ m_79) (hw _ m_60) (hw _ m_61) rfl (by rw [hml]; exact hl.1) rfl d_Bits_init_1 (Nat.le_of_ble_eq_true rfl) (Nat.le_of_ble_eq_true rfl) ?_
  refine W.eq (g2 := F0 m 4 ls []) rfl ?_
  refine lv_aload_n hx hb d_Bits_init_4 rfl (lv_at hl 0 rfl) ?_
  refine lv_sipush (v := 8192) hx hb d_Bits_init_5 (by decide) ?_
  refine va_newa (atype := .long) (ty := .long) (N' := 8192) (a0 := (8192, .inr (.inl (fun _ => 0)))) hx hb (hw _ m_90) rfl hK hP hD hS hA (fun _ => rfl) (by decide) (by decide) (by rw [cb_J]; omega) (by first | exact Nat.le_of_ble_eq_true rfl | (show _ ≤ _; omega)) (by show _ + _ ≤ 8192; omega) d_Bits_init_8 (fun q_1 cA H hK9 hP hD hS => ?_)
  have ec : cL = cA := ra_L hK9 1 2 rfl rfl
  subst ec
  refine W.widen (k := 1) (n := 8192) (by omega) (by omega) ?_
  have hP : va_P (dC, dI) classes [(o, .inr (0, [.null, .int 0])), (q_1, .inl (cL, 8192, .inr (.inl (fun _ => 0))))] H := hP
  have hD : va_D A [(o, .inr (0, [.null, .int 0])), (q_1, .inl (cL, 8192, .inr (.inl (fun _ => 0))))] := hD
  refine va_putF (D := (dC, dI)) (ci := 0) (v := .ref q_1) (ty := (.array .long)) (C := R_Bits) (T := F_Bits) (N := 2) hx hb hw i_Bits t_Bits t_Bits_ok n_Bits hown hK hP hD hS 0 rfl rfl 0 (by decide) (hw _ m_80) (fun _ h9 => h9) rfl hin rfl (by decide +kernel) rfl rfl (Nat.le_of_ble_eq_true rfl) d_Bits_init_10 (fun H locs hP hD hS => ?_)
  have hP : va_P (dC, dI) classes [(o, .inr (0, [.ref q_1, .int 0])), (q_1, .inl (cL, 8192, .inr (.inl (fun _ => 0))))] H := hP
  have hD : va_D A [(o, .inr (0, [.ref q_1, .int 0])), (q_1, .inl (cL, 8192, .inr (.inl (fun _ => 0))))] := hD
  have hP9 := hP.sub (ws' := [(o, .inr (0, [.ref q_1, .int 0])), (q_1, .inl (cL, 8192, .inr (.inl (fun _ => 0))))]) [0, 1] rfl
  have hD9 := hD.sub (ws' := [(o, .inr (0, [.ref q_1, .int 0])), (q_1, .inl (cL, 8192, .inr (.inl (fun _ => 0))))]) [0, 1] (by decide) rfl
  have hK9 := hK
  exact W.vret hx hb hr (fun t ht hW => ⟨⟨q_1, rfl, trivial, ⟨by rw [ht]; exact hP9, va_K.moved hW.alike hK9, hD9⟩⟩, hS.F ht⟩) hS.2.2 d_Bits_init_13
set_option maxHeartbeats 4000000 in
set_option maxRecDepth 100000 in
theorem c_Line_init (l : Launch) (dC : Nat → ClassId) (dI : Nat → Nat → Nat) (cI cL : ClassId) (o : Nat) (wd : Nat) (sz : Nat)   (hwd : wd ≤ 10000) : Met l y_Line_init w_Line_init ({ frames := 1, cells := 2, slots := 10157, locals := 20 }) (va_Pc [.ref o, .int (nI wd)] (fun U => U.heap.size = sz ∧ va_P (dC, dI) classes [(o, .inr (2, [.int 0, .null, .null, .int 0]))] U.heap ∧ va_K (dC, dI) classes [(cI, .int), (cL, .long)] U ∧ va_D (fun _ => True) [(o, .inr (2, [.int 0, .null, .null, .int 0]))])) (va_Qv (fun (u : Nat × Nat) => True) (fun (u : Nat × Nat) (t : State) => va_P (dC, dI) classes [(o, .inr (2, [.int (nI wd), .ref u.1, .ref u.2, .int 0])), (u.1, .inl (cL, ((wd + 63) / 64), .inr (.inl (fun _ => 0)))), (u.2, .inl (cI, wd, .inl (fun _ => 0)))] t.heap ∧ va_K (dC, dI) classes [(cI, .int), (cL, .long)] t ∧ va_D (va_A [(o, .inr (2, [.int 0, .null, .null, .int 0]))] sz) [(o, .inr (2, [.int (nI wd), .ref u.1, .ref u.2, .int 0])), (u.1, .inl (cL, ((wd + 63) / 64), .inr (.inl (fun _ => 0)))), (u.2, .inl (cI, wd, .inl (fun _ => 0)))]) (va_A [(o, .inr (2, [.int 0, .null, .null, .int 0]))] sz)) 2 10157 (va_A [(o, .inr (2, [.int 0, .null, .null, .int 0]))] sz) := by
  refine Met.ofW (cc := b_Line_init) (maxL := 2) (ret := none) (by decide) rfl ?_
  intro p e s m args below meth c s₁ B hml hv
  obtain ⟨rfl, hsz, hP, hK, hD0⟩ := hv
  have hx := B.exec
  have hb := B.bytes
  have hr := B.returns
  have hts := atoms_spec (ws := w_Line_init) B.pre
  have hw : ∀ w ∈ WA, w.before _ s = true := fun w h => hts w (List.mem_cons_of_mem _ h)
  have hown : s.vm.findClass R_Line = some m.cls := findClass_of_methodNamed B.named
  have hlocks := B.notSynchronized
  have hin : meth.name = "<init>" := (name_of_methodNamed B.named B.method).1
  subst hsz
  have hD := hD0.self (sz := s.heap.size)
  generalize hAe : va_A [(o, .inr (2, [.int 0, .null, .null, .int 0]))] s.heap.size = A at hD ⊢
  have hA : ∀ q : Nat, s.heap.size ≤ q → A q := fun q h => by rw [← hAe]; exact Or.inr h
  have hS : va_S A s.heap s.heap [] := va_S.rf
  have hP : va_P (dC, dI) classes [(o, .inr (2, [.int 0, .null, .null, .int 0]))] s.heap := hP
  have hl := lv_entry ([.ref o, .int (nI wd)]) (n := 2) (Nat.le_of_ble_eq_true rfl)
  rw [lg_entry_eq]
  generalize (lg_sl ([.ref o, .int (nI wd)]) ++ List.replicate (2 - (lg_sl ([.ref o, .int (nI wd)])).length) Slot.unset).toArray = ls at hl ⊢
  have hl : lv_has ls 2 [(0, .ref o), (1, .int (nI wd))] := hl
  refine lv_aload_n hx hb d_Line_init_0 rfl (lv_at hl 0 rfl) ?_
  refine W.objInit hx hb hown (hw _ m_96) (hw _ m_60) (hw _ m_61) rfl (by rw [hml]; exact hl.1) rfl d_Line_init_1 (Nat.le_of_ble_eq_true rfl) (Nat.le_of_ble_eq_true rfl) ?_
  refine W.eq (g2 := F0 m 4 ls []) rfl ?_
  refine lv_aload_n hx hb d_Line_init_4 rfl (lv_at hl 0 rfl) ?_
  refine lv_iload_n hx hb d_Line_init_5 rfl (lv_at hl 1 rfl) ?_
  refine va_putF (D := (dC, dI)) (ci := 2) (v := .int (nI wd)) (ty := .int) (C := R_Line) (T := F_Line) (N := 4) hx hb hw i_Line t_Line t_Line_ok n_Line hown hK hP hD hS 0 rfl rfl 0 (by decide) (hw _ m_97) (fun _ h9 => h9) rfl hin rfl (by decide +kernel) rfl rfl (Nat.le_of_ble_eq_true rfl) d_Line_init_6 (fun H locs hP hD hS => ?_)
  have hP : va_P (dC, dI) classes [(o, .inr (2, [.int (nI wd), .null, .null, .int 0]))] H := hP
  have hD : va_D A [(o, .inr (2, [.int (nI wd), .null, .null, .int 0]))] := hD
  refine lv_aload_n hx hb d_Line_init_9 rfl (lv_at hl 0 rfl) ?_
  refine lv_iload_n hx hb d_Line_init_10 rfl (lv_at hl 1 rfl) ?_
  refine lv_bipush (v := 63) hx hb d_Line_init_11 (by decide) ?_
  refine lv_iadd hx hb d_Line_init_13 ?_
  refine lv_bipush (v := 64) hx hb d_Line_init_14 (by decide) ?_
  refine lv_idiv hx hb d_Line_init_16 (by decide) ?_
  refine va_newa (atype := .long) (ty := .long) (N' := ((wd + 63) / 64)) (a0 := (((wd + 63) / 64), .inr (.inl (fun _ => 0)))) hx hb (hw _ m_90) rfl hK hP hD hS hA (fun _ => rfl) (pn_n hwd) (pn_c hwd) (by rw [cb_J]; omega) (by first | exact Nat.le_of_ble_eq_true rfl | (show _ ≤ _; omega)) (by show _ + _ ≤ 10157; omega) d_Line_init_17 (fun q_1 cA H hK9 hP hD hS => ?_)
  have ec : cL = cA := ra_L hK9 1 2 rfl rfl
  subst ec
  refine W.widen (k := 1) (n := 157) (by omega) (by omega) ?_
  have hP : va_P (dC, dI) classes [(o, .inr (2, [.int (nI wd), .null, .null, .int 0])), (q_1, .inl (cL, ((wd + 63) / 64), .inr (.inl (fun _ => 0))))] H := hP
  have hD : va_D A [(o, .inr (2, [.int (nI wd), .null, .null, .int 0])), (q_1, .inl (cL, ((wd + 63) / 64), .inr (.inl (fun _ => 0))))] := hD
  refine va_putF (D := (dC, dI)) (ci := 2) (v := .ref q_1) (ty := (.array .long)) (C := R_Line) (T := F_Line) (N := 4) hx hb hw i_Line t_Line t_Line_ok n_Line hown hK hP hD hS 0 rfl rfl 1 (by decide) (hw _ m_98) (fun _ h9 => h9) rfl hin rfl (by decide +kernel) rfl rfl (Nat.le_of_ble_eq_true rfl) d_Line_init_19 (fun H locs hP hD hS => ?_)
  have hP : va_P (dC, dI) classes [(o, .inr (2, [.int (nI wd), .ref q_1, .null, .int 0])), (q_1, .inl (cL, ((wd + 63) / 64), .inr (.inl (fun _ => 0))))] H := hP
  have hD : va_D A [(o, .inr (2, [.int (nI wd), .ref q_1, .null, .int 0])), (q_1, .inl (cL, ((wd + 63) / 64), .inr (.inl (fun _ => 0))))] := hD
  refine lv_aload_n hx hb d_Line_init_22 rfl (lv_at hl 0 rfl) ?_
  refine lv_iload_n hx hb d_Line_init_23 rfl (lv_at hl 1 rfl) ?_
  refine va_newa (atype := .int) (ty := .int) (N' := wd) (a0 := (wd, .inl (fun _ => 0))) hx hb (hw _ m_111) rfl hK hP hD hS hA (fun _ => rfl) (nI_pos (by omega)) (nI_clamp (by omega)) (by rw [cb_I]; omega) (by first | exact Nat.le_of_ble_eq_true rfl | (show _ ≤ _; omega)) (by show _ + _ ≤ 10157; omega) d_Line_init_24 (fun q_2 cA H hK9 hP hD hS => ?_)
  have ec : cI = cA := ra_I hK9 0 2 rfl rfl
  subst ec
  refine W.widen (k := 2) (n := 10157) (by omega) (by omega) ?_
  have hP : va_P (dC, dI) classes [(o, .inr (2, [.int (nI wd), .ref q_1, .null, .int 0])), (q_1, .inl (cL, ((wd + 63) / 64), .inr (.inl (fun _ => 0)))), (q_2, .inl (cI, wd, .inl (fun _ => 0)))] H := hP
  have hD : va_D A [(o, .inr (2, [.int (nI wd), .ref q_1, .null, .int 0])), (q_1, .inl (cL, ((wd + 63) / 64), .inr (.inl (fun _ => 0)))), (q_2, .inl (cI, wd, .inl (fun _ => 0)))] := hD
  refine va_putF (D := (dC, dI)) (ci := 2) (v := .ref q_2) (ty := (.array .int)) (C := R_Line) (T := F_Line) (N := 4) hx hb hw i_Line t_Line t_Line_ok n_Line hown hK hP hD hS 0 rfl rfl 2 (by decide) (hw _ m_99) (fun _ h9 => h9) rfl hin rfl (by decide +kernel) rfl rfl (Nat.le_of_ble_eq_true rfl) d_Line_init_26 (fun H locs hP hD hS => ?_)
  have hP : va_P (dC, dI) classes [(o, .inr (2, [.int (nI wd), .ref q_1, .ref q_2, .int 0])), (q_1, .inl (cL, ((wd + 63) / 64), .inr (.inl (fun _ => 0)))), (q_2, .inl (cI, wd, .inl (fun _ => 0)))] H := hP
  have hD : va_D A [(o, .inr (2, [.int (nI wd), .ref q_1, .ref q_2, .int 0])), (q_1, .inl (cL, ((wd + 63) / 64), .inr (.inl (fun _ => 0)))), (q_2, .inl (cI, wd, .inl (fun _ => 0)))] := hD
  have hP9 := hP.sub (ws' := [(o, .inr (2, [.int (nI wd), .ref q_1, .ref q_2, .int 0])), (q_1, .inl (cL, ((wd + 63) / 64), .inr (.inl (fun _ => 0)))), (q_2, .inl (cI, wd, .inl (fun _ => 0)))]) [0, 1, 2] rfl
  have hD9 := hD.sub (ws' := [(o, .inr (2, [.int (nI wd), .ref q_1, .ref q_2, .int 0])), (q_1, .inl (cL, ((wd + 63) / 64), .inr (.inl (fun _ => 0)))), (q_2, .inl (cI, wd, .inl (fun _ => 0)))]) [0, 1, 2] (by decide) rfl
  have hK9 := hK
  exact W.vret hx hb hr (fun t ht hW => ⟨⟨(q_1, q_2), rfl, trivial, ⟨by rw [ht]; exact hP9, va_K.moved hW.alike hK9, hD9⟩⟩, hS.F ht⟩) hS.2.2 d_Line_init_29
set_option maxHeartbeats 4000000 in
set_option maxRecDepth 100000 in
theorem c_Spot_init (l : Launch) (dC : Nat → ClassId) (dI : Nat → Nat → Nat) (cI cL : ClassId) (o : Nat) (lo : Nat) (sz : Nat)    : Met l y_Spot_init w_Spot_init ({ frames := 1, cells := 0, slots := 0, locals := 20 }) (va_Pc [.ref o, .ref lo] (fun U => U.heap.size = sz ∧ va_P (dC, dI) classes [(o, .inr (4, [.null, .int 0, .int 0, .int 0, .int 0, .int 0]))] U.heap ∧ va_K (dC, dI) classes [(cI, .int), (cL, .long)] U ∧ va_D (fun _ => True) [(o, .inr (4, [.null, .int 0, .int 0, .int 0, .int 0, .int 0]))])) (va_Qv (fun (u : Unit) => True) (fun (u : Unit) (t : State) => va_P (dC, dI) classes [(o, .inr (4, [.ref lo, .int 0, .int 0, .int 0, .int 0, .int 0]))] t.heap ∧ va_K (dC, dI) classes [(cI, .int), (cL, .long)] t ∧ va_D (va_A [(o, .inr (4, [.null, .int 0, .int 0, .int 0, .int 0, .int 0]))] sz) [(o, .inr (4, [.ref lo, .int 0, .int 0, .int 0, .int 0, .int 0]))]) (va_A [(o, .inr (4, [.null, .int 0, .int 0, .int 0, .int 0, .int 0]))] sz)) 0 0 (va_A [(o, .inr (4, [.null, .int 0, .int 0, .int 0, .int 0, .int 0]))] sz) := by
  refine Met.ofW (cc := b_Spot_init) (maxL := 2) (ret := none) (by decide) rfl ?_
  intro p e s m args below meth c s₁ B hml hv
  obtain ⟨rfl, hsz, hP, hK, hD0⟩ := hv
  have hx := B.exec
  have hb := B.bytes
  have hr := B.returns
  have hts := atoms_spec (ws := w_Spot_init) B.pre
  have hw : ∀ w ∈ WA, w.before _ s = true := fun w h => hts w (List.mem_cons_of_mem _ h)
  have hown : s.vm.findClass R_Spot = some m.cls := findClass_of_methodNamed B.named
  have hlocks := B.notSynchronized
  have hin : meth.name = "<init>" := (name_of_methodNamed B.named B.method).1
  subst hsz
  have hD := hD0.self (sz := s.heap.size)
  generalize hAe : va_A [(o, .inr (4, [.null, .int 0, .int 0, .int 0, .int 0, .int 0]))] s.heap.size = A at hD ⊢
  have hA : ∀ q : Nat, s.heap.size ≤ q → A q := fun q h => by rw [← hAe]; exact Or.inr h
  have hS : va_S A s.heap s.heap [] := va_S.rf
  have hP : va_P (dC, dI) classes [(o, .inr (4, [.null, .int 0, .int 0, .int 0, .int 0, .int 0]))] s.heap := hP
  have hl := lv_entry ([.ref o, .ref lo]) (n := 2) (Nat.le_of_ble_eq_true rfl)
  rw [lg_entry_eq]
  generalize (lg_sl ([.ref o, .ref lo]) ++ List.replicate (2 - (lg_sl ([.ref o, .ref lo])).length) Slot.unset).toArray = ls at hl ⊢
  have hl : lv_has ls 2 [(0, .ref o), (1, .ref lo)] := hl
  refine lv_aload_n hx hb d_Spot_init_0 rfl (lv_at hl 0 rfl) ?_
  refine W.objInit hx hb hown (hw _ m_117) (hw _ m_60) (hw _ m_61) rfl (by rw [hml]; exact hl.1) rfl d_Spot_init_1 (Nat.le_of_ble_eq_true rfl) (Nat.le_of_ble_eq_true rfl) ?_
  refine W.eq (g2 := F0 m 4 ls []) rfl ?_
  refine lv_aload_n hx hb d_Spot_init_4 rfl (lv_at hl 0 rfl) ?_
  refine lv_aload_n hx hb d_Spot_init_5 rfl (lv_at hl 1 rfl) ?_
  refine va_put (D := (dC, dI)) (ci := 4) (v := .ref lo) (ty := (.object "DotLines$Line")) (C := R_Spot) (T := F_Spot) (N := 6) hx hb hw i_Spot t_Spot t_Spot_ok n_Spot hown hK hP hD hS 0 rfl rfl 0 (by decide) (hw _ m_118) (fun _ h9 => h9) rfl (by decide +kernel) rfl rfl (Nat.le_of_ble_eq_true rfl) d_Spot_init_6 (fun H locs hP hD hS => ?_)
  have hP : va_P (dC, dI) classes [(o, .inr (4, [.ref lo, .int 0, .int 0, .int 0, .int 0, .int 0]))] H := hP
  have hD : va_D A [(o, .inr (4, [.ref lo, .int 0, .int 0, .int 0, .int 0, .int 0]))] := hD
  have hP9 := hP.sub (ws' := [(o, .inr (4, [.ref lo, .int 0, .int 0, .int 0, .int 0, .int 0]))]) [0] rfl
  have hD9 := hD.sub (ws' := [(o, .inr (4, [.ref lo, .int 0, .int 0, .int 0, .int 0, .int 0]))]) [0] (by decide) rfl
  have hK9 := hK
  exact W.vret hx hb hr (fun t ht hW => ⟨⟨(), rfl, trivial, ⟨by rw [ht]; exact hP9, va_K.moved hW.alike hK9, hD9⟩⟩, hS.F ht⟩) hS.2.2 d_Spot_init_9
