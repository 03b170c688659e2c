def f_Tree_isWord (i : Int32) : Int32 := if 0 ≤ i then (0) else (1)
set_option maxHeartbeats 4000000 in
set_option maxRecDepth 100000 in
theorem c_Tree_isWord (l : Launch) (dC : Nat → ClassId) (dI : Nat → Nat → Nat) (cI cL : ClassId)  (sz : Nat)  (i : Int32)  : Met l y_Tree_isWord w_Tree_isWord ({ frames := 0, cells := 0, slots := 0, locals := 0 }) (va_Pc [.int i] (fun U => U.heap.size = sz ∧ va_P (dC, dI) classes [] U.heap ∧ va_K (dC, dI) classes [(cI, .int), (cL, .long)] U ∧ va_D (fun _ => True) [])) (va_Qi (fun (r : Int32) (u : Unit) => r = f_Tree_isWord i) (fun (u : Unit) (t : State) => va_P (dC, dI) classes [] t.heap ∧ va_K (dC, dI) classes [(cI, .int), (cL, .long)] t ∧ va_D (va_A [] sz) []) (va_A [] sz)) 0 0 (va_A [] sz) := by
  refine Met.ofW (cc := b_Tree_isWord) (maxL := 1) (ret := (some .boolean)) (by decide) rfl ?_
  intro p e s m args below meth c s₁ B hml hv
  obtain ⟨rfl, hsz, hP, hK, hD0⟩ := hv
  have hx := B.exec
  have hb := B.bytes
  have hr := B.returns
  have hts := atoms_spec (ws := w_Tree_isWord) B.pre
  have hw : ∀ w ∈ WA, w.before _ s = true := fun w h => hts w (List.mem_cons_of_mem _ h)
  have hown : s.vm.findClass R_Tree = some m.cls := findClass_of_methodNamed B.named
  have hlocks := B.notSynchronized
  subst hsz
  have hD := hD0.self (sz := s.heap.size)
  generalize hAe : va_A [] s.heap.size = A at hD ⊢
  have hA : ∀ q : Nat, s.heap.size ≤ q → A q := fun q h => by rw [← hAe]; exact Or.inr h
  have hS : va_S A s.heap s.heap [] := va_S.rf
  have hP : va_P (dC, dI) classes [] s.heap := hP
  have hl := lv_entry ([.int i]) (n := 1) (Nat.le_of_ble_eq_true rfl)
  rw [lg_entry_eq]
  generalize (lg_sl ([.int i]) ++ List.replicate (1 - (lg_sl ([.int i])).length) Slot.unset).toArray = ls at hl ⊢
  have hl : lv_has ls 1 [(0, .int i)] := hl
  refine lv_iload_n hx hb d_Tree_isWord_0 rfl (lv_at hl 0 rfl) ?_
  refine lv_if_ge (tgt := 8) hx hb d_Tree_isWord_1 (by decide) (fun c_1 => ?_) (fun c_1 => ?_)
  · refine lv_iconst (v := 0) hx hb d_Tree_isWord_8 (by decide) ?_
    have hP9 := hP.sub (ws' := []) [] rfl
    have hD9 := hD.sub (ws' := []) [] (by decide) rfl
    have hK9 := hK
    exact W.zret (v := 0) hx hb hr rfl (fun t ht hW => ⟨⟨0, (), rfl, (by have h9 : f_Tree_isWord i = 0 := (by exact ((if_pos c_1).trans (rfl))); exact h9.symm), ⟨by rw [ht]; exact hP9, va_K.moved hW.alike hK9, hD9⟩⟩, hS.F ht⟩) hS.2.2 d_Tree_isWord_9
  · refine lv_iconst (v := 1) hx hb d_Tree_isWord_4 (by decide) ?_
    refine lv_goto (tgt := 9) hx hb d_Tree_isWord_5 (by decide) ?_
    have hP9 := hP.sub (ws' := []) [] rfl
    have hD9 := hD.sub (ws' := []) [] (by decide) rfl
    have hK9 := hK
    exact W.zret (v := 1) hx hb hr rfl (fun t ht hW => ⟨⟨1, (), rfl, (by have h9 : f_Tree_isWord i = 1 := (by exact ((if_neg c_1).trans (rfl))); exact h9.symm), ⟨by rw [ht]; exact hP9, va_K.moved hW.alike hK9, hD9⟩⟩, hS.F ht⟩) hS.2.2 d_Tree_isWord_9
def f_Tree_meaning (i : Int32) : Int32 := i ^^^ (-1)
set_option maxHeartbeats 4000000 in
set_option maxRecDepth 100000 in
theorem c_Tree_meaning (l : Launch) (dC : Nat → ClassId) (dI : Nat → Nat → Nat) (cI cL : ClassId)  (sz : Nat)  (i : Int32)  : Met l y_Tree_meaning w_Tree_meaning ({ frames := 0, cells := 0, slots := 0, locals := 0 }) (va_Pc [.int i] (fun U => U.heap.size = sz ∧ va_P (dC, dI) classes [] U.heap ∧ va_K (dC, dI) classes [(cI, .int), (cL, .long)] U ∧ va_D (fun _ => True) [])) (va_Qi (fun (r : Int32) (u : Unit) => r = f_Tree_meaning i) (fun (u : Unit) (t : State) => va_P (dC, dI) classes [] t.heap ∧ va_K (dC, dI) classes [(cI, .int), (cL, .long)] t ∧ va_D (va_A [] sz) []) (va_A [] sz)) 0 0 (va_A [] sz) := by
  refine Met.ofW (cc := b_Tree_meaning) (maxL := 1) (ret := (some .int)) (by decide) rfl ?_
  intro p e s m args below meth c s₁ B hml hv
  obtain ⟨rfl, hsz, hP, hK, hD0⟩ := hv
  have hx := B.exec
  have hb := B.bytes
  have hr := B.returns
  have hts := atoms_spec (ws := w_Tree_meaning) B.pre
  have hw : ∀ w ∈ WA, w.before _ s = true := fun w h => hts w (List.mem_cons_of_mem _ h)
  have hown : s.vm.findClass R_Tree = some m.cls := findClass_of_methodNamed B.named
  have hlocks := B.notSynchronized
  subst hsz
  have hD := hD0.self (sz := s.heap.size)
  generalize hAe : va_A [] s.heap.size = A at hD ⊢
  have hA : ∀ q : Nat, s.heap.size ≤ q → A q := fun q h => by rw [← hAe]; exact Or.inr h
  have hS : va_S A s.heap s.heap [] := va_S.rf
  have hP : va_P (dC, dI) classes [] s.heap := hP
  have hl := lv_entry ([.int i]) (n := 1) (Nat.le_of_ble_eq_true rfl)
  rw [lg_entry_eq]
  generalize (lg_sl ([.int i]) ++ List.replicate (1 - (lg_sl ([.int i])).length) Slot.unset).toArray = ls at hl ⊢
  have hl : lv_has ls 1 [(0, .int i)] := hl
  refine lv_iload_n hx hb d_Tree_meaning_0 rfl (lv_at hl 0 rfl) ?_
  refine lv_iconst (v := (-1)) hx hb d_Tree_meaning_1 (by decide) ?_
  refine lv_ixor hx hb d_Tree_meaning_2 ?_
  have hP9 := hP.sub (ws' := []) [] rfl
  have hD9 := hD.sub (ws' := []) [] (by decide) rfl
  have hK9 := hK
  exact W.iret (v := i ^^^ (-1)) hx hb hr (fun t ht hW => ⟨⟨i ^^^ (-1), (), rfl, (by have h9 : f_Tree_meaning i = i ^^^ (-1) := (by exact (rfl)); exact h9.symm), ⟨by rw [ht]; exact hP9, va_K.moved hW.alike hK9, hD9⟩⟩, hS.F ht⟩) hS.2.2 d_Tree_meaning_3
def f_Tree_follow (tr : (Nat → Int32) × Int32) (nd : Int32) (bt : Int32) : Int32 := let x_1 := (2 * nd) + bt; if x_1 < 0 then (0) else (if x_1 < (nI 512) then (tr.1 x_1.toNatClampNeg) else (0))
set_option maxHeartbeats 4000000 in
set_option maxRecDepth 100000 in
theorem c_Tree_follow (l : Launch) (dC : Nat → ClassId) (dI : Nat → Nat → Nat) (cI cL : ClassId) (to : Nat) (ta : Nat) (tr : (Nat → Int32) × Int32) (sz : Nat)  (nd : Int32) (bt : Int32)  : Met l y_Tree_follow w_Tree_follow ({ frames := 0, cells := 0, slots := 0, locals := 0 }) (va_Pc [.ref to, .int nd, .int bt] (fun U => U.heap.size = sz ∧ va_P (dC, dI) classes [(to, .inr (5, [.ref ta, .int tr.2])), (ta, .inl (cI, 512, .inl tr.1))] U.heap ∧ va_K (dC, dI) classes [(cI, .int), (cL, .long)] U ∧ va_D (fun _ => True) [(to, .inr (5, [.ref ta, .int tr.2])), (ta, .inl (cI, 512, .inl tr.1))])) (va_Qi (fun (r : Int32) (u : Unit) => r = f_Tree_follow tr nd bt) (fun (u : Unit) (t : State) => va_P (dC, dI) classes [(to, .inr (5, [.ref ta, .int tr.2])), (ta, .inl (cI, 512, .inl tr.1))] t.heap ∧ va_K (dC, dI) classes [(cI, .int), (cL, .long)] t ∧ va_D (va_A [(to, .inr (5, [.ref ta, .int tr.2])), (ta, .inl (cI, 512, .inl tr.1))] sz) [(to, .inr (5, [.ref ta, .int tr.2])), (ta, .inl (cI, 512, .inl tr.1))]) (va_A [(to, .inr (5, [.ref ta, .int tr.2])), (ta, .inl (cI, 512, .inl tr.1))] sz)) 0 0 (va_A [(to, .inr (5, [.ref ta, .int tr.2])), (ta, .inl (cI, 512, .inl tr.1))] sz) := by
  refine Met.ofW (cc := b_Tree_follow) (maxL := 4) (ret := (some .int)) (by decide) rfl ?_
  intro p e s m args below meth c s₁ B hml hv
  obtain ⟨rfl, hsz, hP, hK, hD0⟩ := hv
  have hx := B.exec
  have hb := B.bytes
  have hr := B.returns
  have hts := atoms_spec (ws := w_Tree_follow) B.pre
  have hw : ∀ w ∈ WA, w.before _ s = true := fun w h => hts w (List.mem_cons_of_mem _ h)
  have hown : s.vm.findClass R_Tree = some m.cls := findClass_of_methodNamed B.named
  have hlocks := B.notSynchronized
  subst hsz
  have hD := hD0.self (sz := s.heap.size)
  generalize hAe : va_A [(to, .inr (5, [.ref ta, .int tr.2])), (ta, .inl (cI, 512, .inl tr.1))] s.heap.size = A at hD ⊢
  have hA : ∀ q : Nat, s.heap.size ≤ q → A q := fun q h => by rw [← hAe]; exact Or.inr h
  have hS : va_S A s.heap s.heap [] := va_S.rf
  have hP : va_P (dC, dI) classes [(to, .inr (5, [.ref ta, .int tr.2])), (ta, .inl (cI, 512, .inl tr.1))] s.heap := hP
  have hl := lv_entry ([.ref to, .int nd, .int bt]) (n := 4) (Nat.le_of_ble_eq_true rfl)
  rw [lg_entry_eq]
  generalize (lg_sl ([.ref to, .int nd, .int bt]) ++ List.replicate (4 - (lg_sl ([.ref to, .int nd, .int bt])).length) Slot.unset).toArray = ls at hl ⊢
  have hl : lv_has ls 4 [(0, .ref to), (1, .int nd), (2, .int bt)] := hl
  refine lv_iconst (v := 2) hx hb d_Tree_follow_0 (by decide) ?_
  refine lv_iload_n hx hb d_Tree_follow_1 rfl (lv_at hl 1 rfl) ?_
  refine lv_imul hx hb d_Tree_follow_2 ?_
  refine lv_iload_n hx hb d_Tree_follow_3 rfl (lv_at hl 2 rfl) ?_
  refine lv_iadd hx hb d_Tree_follow_4 ?_
  refine lv_topi (fun x_1 ex_1 => ?_)
  replace ex_1 := ex_1.symm
  refine lv_istore_n (lv' := [(3, .int x_1), (0, .ref to), (1, .int nd), (2, .int bt)]) hx hb d_Tree_follow_5 rfl hl (by decide) rfl (fun ls hl => ?_)
  refine lv_iload_n hx hb d_Tree_follow_6 rfl (lv_at hl 0 rfl) ?_
  refine lv_if_lt (tgt := 19) hx hb d_Tree_follow_7 (by decide) (fun c_2 => ?_) (fun c_2 => ?_)
  · refine lv_iconst (v := 0) hx hb d_Tree_follow_19 (by decide) ?_
    refine lv_goto (tgt := 29) hx hb d_Tree_follow_20 (by decide) ?_
    have hP9 := hP.sub (ws' := [(to, .inr (5, [.ref ta, .int tr.2])), (ta, .inl (cI, 512, .inl tr.1))]) [0, 1] rfl
    have hD9 := hD.sub (ws' := [(to, .inr (5, [.ref ta, .int tr.2])), (ta, .inl (cI, 512, .inl tr.1))]) [0, 1] (by decide) rfl
    have hK9 := hK
    exact W.iret (v := 0) hx hb hr (fun t ht hW => ⟨⟨0, (), rfl, (by have h9 : f_Tree_follow tr nd bt = 0 := (by subst ex_1; exact ((if_pos c_2).trans (rfl))); exact h9.symm), ⟨by rw [ht]; exact hP9, va_K.moved hW.alike hK9, hD9⟩⟩, hS.F ht⟩) hS.2.2 d_Tree_follow_29
  · refine lv_iload_n hx hb d_Tree_follow_10 rfl (lv_at hl 0 rfl) ?_
    refine lv_aload_n hx hb d_Tree_follow_11 rfl (lv_at hl 1 rfl) ?_
    refine va_get (D := (dC, dI)) (ci := 5) (v := .ref ta) (C := R_Tree) (T := F_Tree) (N := 2) hx hb hw i_Tree hown hK hP 0 rfl rfl 0 (by decide) (hw _ m_247) (fun _ h9 => h9) rfl d_Tree_follow_12 ?_
    refine va_alen (v := nI 512) hx hb hK hP 1 0 rfl rfl rfl d_Tree_follow_15 ?_
    refine lv_icmp_lt (tgt := 23) hx hb d_Tree_follow_16 (by decide) (fun c_3 => ?_) (fun c_3 => ?_)
    · refine lv_aload_n hx hb d_Tree_follow_23 rfl (lv_at hl 1 rfl) ?_
      refine va_get (D := (dC, dI)) (ci := 5) (v := .ref ta) (C := R_Tree) (T := F_Tree) (N := 2) hx hb hw i_Tree hown hK hP 0 rfl rfl 0 (by decide) (hw _ m_247) (fun _ h9 => h9) rfl d_Tree_follow_24 ?_
      refine lv_iload_n hx hb d_Tree_follow_27 rfl (lv_at hl 0 rfl) ?_
      refine va_iald hx hb hK hP 1 0 rfl rfl (ix_a (by decide) c_2 c_3) d_Tree_follow_28 ?_
      have hP9 := hP.sub (ws' := [(to, .inr (5, [.ref ta, .int tr.2])), (ta, .inl (cI, 512, .inl tr.1))]) [0, 1] rfl
      have hD9 := hD.sub (ws' := [(to, .inr (5, [.ref ta, .int tr.2])), (ta, .inl (cI, 512, .inl tr.1))]) [0, 1] (by decide) rfl
      have hK9 := hK
      exact W.iret (v := tr.1 x_1.toNatClampNeg) hx hb hr (fun t ht hW => ⟨⟨tr.1 x_1.toNatClampNeg, (), rfl, (by have h9 : f_Tree_follow tr nd bt = tr.1 x_1.toNatClampNeg := (by subst ex_1; exact ((if_neg c_2).trans ((if_pos c_3).trans (rfl)))); exact h9.symm), ⟨by rw [ht]; exact hP9, va_K.moved hW.alike hK9, hD9⟩⟩, hS.F ht⟩) hS.2.2 d_Tree_follow_29
    · refine lv_iconst (v := 0) hx hb d_Tree_follow_19 (by decide) ?_
      refine lv_goto (tgt := 29) hx hb d_Tree_follow_20 (by decide) ?_
      have hP9 := hP.sub (ws' := [(to, .inr (5, [.ref ta, .int tr.2])), (ta, .inl (cI, 512, .inl tr.1))]) [0, 1] rfl
      have hD9 := hD.sub (ws' := [(to, .inr (5, [.ref ta, .int tr.2])), (ta, .inl (cI, 512, .inl tr.1))]) [0, 1] (by decide) rfl
      have hK9 := hK
      exact W.iret (v := 0) hx hb hr (fun t ht hW => ⟨⟨0, (), rfl, (by have h9 : f_Tree_follow tr nd bt = 0 := (by subst ex_1; exact ((if_neg c_2).trans ((if_neg c_3).trans (rfl)))); exact h9.symm), ⟨by rw [ht]; exact hP9, va_K.moved hW.alike hK9, hD9⟩⟩, hS.F ht⟩) hS.2.2 d_Tree_follow_29
def f_Tree_set (tr : (Nat → Int32) × Int32) (nd : Int32) (bt : Int32) (vl : Int32) : ((Nat → Int32) × Int32) := let x_1 := (2 * nd) + bt; if x_1 < 0 then (tr) else (if (nI 512) ≤ x_1 then (tr) else (let g_4 := upd tr.1 x_1.toNatClampNeg vl; (g_4, tr.2)))
set_option maxHeartbeats 4000000 in
set_option maxRecDepth 100000 in
theorem c_Tree_set (l : Launch) (dC : Nat → ClassId) (dI : Nat → Nat → Nat) (cI cL : ClassId) (to : Nat) (ta : Nat) (sz : Nat) (tr : (Nat → Int32) × Int32) (nd : Int32) (bt : Int32) (vl : Int32)  : Met l y_Tree_set w_Tree_set ({ frames := 0, cells := 0, slots := 0, locals := 0 }) (va_Pc [.ref to, .int nd, .int bt, .int vl] (fun U => U.heap.size = sz ∧ va_P (dC, dI) classes [(to, .inr (5, [.ref ta, .int tr.2])), (ta, .inl (cI, 512, .inl tr.1))] U.heap ∧ va_K (dC, dI) classes [(cI, .int), (cL, .long)] U ∧ va_D (fun _ => True) [(to, .inr (5, [.ref ta, .int tr.2])), (ta, .inl (cI, 512, .inl tr.1))])) (va_Qv (fun (u : ((Nat → Int32) × Int32)) => u = f_Tree_set tr nd bt vl) (fun (u : ((Nat → Int32) × Int32)) (t : State) => va_P (dC, dI) classes [(to, .inr (5, [.ref ta, .int u.2])), (ta, .inl (cI, 512, .inl u.1))] t.heap ∧ va_K (dC, dI) classes [(cI, .int), (cL, .long)] t ∧ va_D (va_A [(to, .inr (5, [.ref ta, .int tr.2])), (ta, .inl (cI, 512, .inl tr.1))] sz) [(to, .inr (5, [.ref ta, .int u.2])), (ta, .inl (cI, 512, .inl u.1))]) (va_A [(to, .inr (5, [.ref ta, .int tr.2])), (ta, .inl (cI, 512, .inl tr.1))] sz)) 0 0 (va_A [(to, .inr (5, [.ref ta, .int tr.2])), (ta, .inl (cI, 512, .inl tr.1))] sz) := by
  refine Met.ofW (cc := b_Tree_set) (maxL := 5) (ret := none) (by decide) rfl ?_
  intro p e s m args below meth c s₁ B hml hv
  obtain ⟨rfl, hsz, hP, hK, hD0⟩ := hv
  have hx := B.exec
  have hb := B.bytes
  have hr := B.returns
  have hts := atoms_spec (ws := w_Tree_set) B.pre
  have hw : ∀ w ∈ WA, w.before _ s = true := fun w h => hts w (List.mem_cons_of_mem _ h)
  have hown : s.vm.findClass R_Tree = some m.cls := findClass_of_methodNamed B.named
  have hlocks := B.notSynchronized
  subst hsz
  have hD := hD0.self (sz := s.heap.size)
  generalize hAe : va_A [(to, .inr (5, [.ref ta, .int tr.2])), (ta, .inl (cI, 512, .inl tr.1))] s.heap.size = A at hD ⊢
  have hA : ∀ q : Nat, s.heap.size ≤ q → A q := fun q h => by rw [← hAe]; exact Or.inr h
  have hS : va_S A s.heap s.heap [] := va_S.rf
  have hP : va_P (dC, dI) classes [(to, .inr (5, [.ref ta, .int tr.2])), (ta, .inl (cI, 512, .inl tr.1))] s.heap := hP
  have hl := lv_entry ([.ref to, .int nd, .int bt, .int vl]) (n := 5) (Nat.le_of_ble_eq_true rfl)
  rw [lg_entry_eq]
  generalize (lg_sl ([.ref to, .int nd, .int bt, .int vl]) ++ List.replicate (5 - (lg_sl ([.ref to, .int nd, .int bt, .int vl])).length) Slot.unset).toArray = ls at hl ⊢
  have hl : lv_has ls 5 [(0, .ref to), (1, .int nd), (2, .int bt), (3, .int vl)] := hl
  refine lv_iconst (v := 2) hx hb d_Tree_set_0 (by decide) ?_
  refine lv_iload_n hx hb d_Tree_set_1 rfl (lv_at hl 1 rfl) ?_
  refine lv_imul hx hb d_Tree_set_2 ?_
  refine lv_iload_n hx hb d_Tree_set_3 rfl (lv_at hl 2 rfl) ?_
  refine lv_iadd hx hb d_Tree_set_4 ?_
  refine lv_topi (fun x_1 ex_1 => ?_)
  replace ex_1 := ex_1.symm
  refine lv_istore (lv' := [(4, .int x_1), (0, .ref to), (1, .int nd), (2, .int bt), (3, .int vl)]) hx hb d_Tree_set_5 hl (by decide) rfl (fun ls hl => ?_)
  refine lv_iload hx hb d_Tree_set_7 (lv_at hl 0 rfl) ?_
  refine lv_if_lt (tgt := 30) hx hb d_Tree_set_9 (by decide) (fun c_2 => ?_) (fun c_2 => ?_)
  · have hP9 := hP.sub (ws' := [(to, .inr (5, [.ref ta, .int tr.2])), (ta, .inl (cI, 512, .inl tr.1))]) [0, 1] rfl
    have hD9 := hD.sub (ws' := [(to, .inr (5, [.ref ta, .int tr.2])), (ta, .inl (cI, 512, .inl tr.1))]) [0, 1] (by decide) rfl
    have hK9 := hK
    exact W.vret hx hb hr (fun t ht hW => ⟨⟨tr, rfl, (by have h9 : f_Tree_set tr nd bt vl = tr := (by subst ex_1; exact ((if_pos c_2).trans (rfl))); exact h9.symm), ⟨by rw [ht]; exact hP9, va_K.moved hW.alike hK9, hD9⟩⟩, hS.F ht⟩) hS.2.2 d_Tree_set_30
  · refine lv_iload hx hb d_Tree_set_12 (lv_at hl 0 rfl) ?_
    refine lv_aload_n hx hb d_Tree_set_14 rfl (lv_at hl 1 rfl) ?_
    refine va_get (D := (dC, dI)) (ci := 5) (v := .ref ta) (C := R_Tree) (T := F_Tree) (N := 2) hx hb hw i_Tree hown hK hP 0 rfl rfl 0 (by decide) (hw _ m_247) (fun _ h9 => h9) rfl d_Tree_set_15 ?_
    refine va_alen (v := nI 512) hx hb hK hP 1 0 rfl rfl rfl d_Tree_set_18 ?_
    refine lv_icmp_ge (tgt := 30) hx hb d_Tree_set_19 (by decide) (fun c_3 => ?_) (fun c_3 => ?_)
    · have hP9 := hP.sub (ws' := [(to, .inr (5, [.ref ta, .int tr.2])), (ta, .inl (cI, 512, .inl tr.1))]) [0, 1] rfl
      have hD9 := hD.sub (ws' := [(to, .inr (5, [.ref ta, .int tr.2])), (ta, .inl (cI, 512, .inl tr.1))]) [0, 1] (by decide) rfl
      have hK9 := hK
      exact W.vret hx hb hr (fun t ht hW => ⟨⟨tr, rfl, (by have h9 : f_Tree_set tr nd bt vl = tr := (by subst ex_1; exact ((if_neg c_2).trans ((if_pos c_3).trans (rfl)))); exact h9.symm), ⟨by rw [ht]; exact hP9, va_K.moved hW.alike hK9, hD9⟩⟩, hS.F ht⟩) hS.2.2 d_Tree_set_30
    · refine lv_aload_n hx hb d_Tree_set_22 rfl (lv_at hl 1 rfl) ?_
      refine va_get (D := (dC, dI)) (ci := 5) (v := .ref ta) (C := R_Tree) (T := F_Tree) (N := 2) hx hb hw i_Tree hown hK hP 0 rfl rfl 0 (by decide) (hw _ m_247) (fun _ h9 => h9) rfl d_Tree_set_23 ?_
      refine lv_iload hx hb d_Tree_set_26 (lv_at hl 0 rfl) ?_
      refine lv_iload_n hx hb d_Tree_set_28 rfl (lv_at hl 4 rfl) ?_
      refine va_iast hx hb hK hP hD hS 1 0 rfl rfl (ix_b (by decide) c_2 c_3) d_Tree_set_29 (fun H locs hP hD hS => ?_)
      obtain ⟨g_4, eg_4⟩ : ∃ y : Nat → Int32, y = upd tr.1 x_1.toNatClampNeg vl := ⟨_, rfl⟩
      rw [← eg_4] at hP hD
      replace eg_4 := eg_4.symm
      have hP : va_P (dC, dI) classes [(to, .inr (5, [.ref ta, .int tr.2])), (ta, .inl (cI, 512, .inl g_4))] H := hP
      have hD : va_D A [(to, .inr (5, [.ref ta, .int tr.2])), (ta, .inl (cI, 512, .inl g_4))] := hD
      have hP9 := hP.sub (ws' := [(to, .inr (5, [.ref ta, .int tr.2])), (ta, .inl (cI, 512, .inl g_4))]) [0, 1] rfl
      have hD9 := hD.sub (ws' := [(to, .inr (5, [.ref ta, .int tr.2])), (ta, .inl (cI, 512, .inl g_4))]) [0, 1] (by decide) rfl
      have hK9 := hK
      exact W.vret hx hb hr (fun t ht hW => ⟨⟨(g_4, tr.2), rfl, (by have h9 : f_Tree_set tr nd bt vl = (g_4, tr.2) := (by subst ex_1 eg_4; exact ((if_neg c_2).trans ((if_neg c_3).trans (rfl)))); exact h9.symm), ⟨by rw [ht]; exact hP9, va_K.moved hW.alike hK9, hD9⟩⟩, hS.F ht⟩) hS.2.2 d_Tree_set_30
def f_Tree_grow (tr : (Nat → Int32) × Int32) (nd : Int32) (bt : Int32) : Int32 × (((Nat → Int32) × Int32)) := let r_1 := f_Tree_follow tr nd bt; if r_1 = 0 then (if 256 ≤ tr.2 then (let r_5 := f_Tree_follow tr nd bt; (r_5, tr)) else (let u_6 := f_Tree_set tr nd bt tr.2; let x_7 := u_6.2 + 1; let r_8 := f_Tree_follow (u_6.1, x_7) nd bt; (r_8, (u_6.1, x_7)))) else (let r_3 := f_Tree_follow tr nd bt; (r_3, tr))
set_option maxHeartbeats 4000000 in
set_option maxRecDepth 100000 in
theorem c_Tree_grow (l : Launch) (dC : Nat → ClassId) (dI : Nat → Nat → Nat) (cI cL : ClassId) (to : Nat) (ta : Nat) (sz : Nat) (tr : (Nat → Int32) × Int32) (nd : Int32) (bt : Int32)  : Met l y_Tree_grow w_Tree_grow ({ frames := 1, cells := 0, slots := 0, locals := 24 }) (va_Pc [.ref to, .int nd, .int bt] (fun U => U.heap.size = sz ∧ va_P (dC, dI) classes [(to, .inr (5, [.ref ta, .int tr.2])), (ta, .inl (cI, 512, .inl tr.1))] U.heap ∧ va_K (dC, dI) classes [(cI, .int), (cL, .long)] U ∧ va_D (fun _ => True) [(to, .inr (5, [.ref ta, .int tr.2])), (ta, .inl (cI, 512, .inl tr.1))])) (va_Qi (fun (r : Int32) (u : ((Nat → Int32) × Int32)) => r = (f_Tree_grow tr nd bt).1 ∧ u = (f_Tree_grow tr nd bt).2) (fun (u : ((Nat → Int32) × Int32)) (t : State) => va_P (dC, dI) classes [(to, .inr (5, [.ref ta, .int u.2])), (ta, .inl (cI, 512, .inl u.1))] t.heap ∧ va_K (dC, dI) classes [(cI, .int), (cL, .long)] t ∧ va_D (va_A [(to, .inr (5, [.ref ta, .int tr.2])), (ta, .inl (cI, 512, .inl tr.1))] sz) [(to, .inr (5, [.ref ta, .int u.2])), (ta, .inl (cI, 512, .inl u.1))]) (va_A [(to, .inr (5, [.ref ta, .int tr.2])), (ta, .inl (cI, 512, .inl tr.1))] sz)) 0 0 (va_A [(to, .inr (5, [.ref ta, .int tr.2])), (ta, .inl (cI, 512, .inl tr.1))] sz) := by
  refine Met.ofW (cc := b_Tree_grow) (maxL := 3) (ret := (some .int)) (by decide) rfl ?_
  intro p e s m args below meth c s₁ B hml hv
  obtain ⟨rfl, hsz, hP, hK, hD0⟩ := hv
  have hx := B.exec
  have hb := B.bytes
  have hr := B.returns
  have hts := atoms_spec (ws := w_Tree_grow) B.pre
  have hw : ∀ w ∈ WA, w.before _ s = true := fun w h => hts w (List.mem_cons_of_mem _ h)
  have hown : s.vm.findClass R_Tree = some m.cls := findClass_of_methodNamed B.named
  have hlocks := B.notSynchronized
  subst hsz
  have hD := hD0.self (sz := s.heap.size)
  generalize hAe : va_A [(to, .inr (5, [.ref ta, .int tr.2])), (ta, .inl (cI, 512, .inl tr.1))] s.heap.size = A at hD ⊢
  have hA : ∀ q : Nat, s.heap.size ≤ q → A q := fun q h => by rw [← hAe]; exact Or.inr h
  have hS : va_S A s.heap s.heap [] := va_S.rf
  have hP : va_P (dC, dI) classes [(to, .inr (5, [.ref ta, .int tr.2])), (ta, .inl (cI, 512, .inl tr.1))] s.heap := hP
  have hl := lv_entry ([.ref to, .int nd, .int bt]) (n := 3) (Nat.le_of_ble_eq_true rfl)
  rw [lg_entry_eq]
  generalize (lg_sl ([.ref to, .int nd, .int bt]) ++ List.replicate (3 - (lg_sl ([.ref to, .int nd, .int bt])).length) Slot.unset).toArray = ls at hl ⊢
  have hl : lv_has ls 3 [(0, .ref to), (1, .int nd), (2, .int bt)] := hl
  refine lv_aload_n hx hb d_Tree_grow_0 rfl (lv_at hl 0 rfl) ?_
  refine lv_iload_n hx hb d_Tree_grow_1 rfl (lv_at hl 1 rfl) ?_
  refine lv_iload_n hx hb d_Tree_grow_2 rfl (lv_at hl 2 rfl) ?_
  have hPc := hP.sub (ws' := [(to, .inr (5, [.ref ta, .int tr.2])), (ta, .inl (cI, 512, .inl tr.1))]) [0, 1] rfl
  have hDc := hD.sub (ws' := [(to, .inr (5, [.ref ta, .int tr.2])), (ta, .inl (cI, 512, .inl tr.1))]) [0, 1] (by decide) rfl
  have hFc := va_free (wc := [(to, .inr (5, [.ref ta, .int tr.2])), (ta, .inl (cI, 512, .inl tr.1))]) hD hS hA [0, 1] rfl
  refine va_calli (va_runV (As := [.int nd, .int bt]) (rest := []) ⟨hx, hb, hml, hown, hw⟩ (c_Tree_follow l dC dI cI cL to ta tr s.heap.size nd bt) (cwV 2 hw (gd_V m_223 m_224 m_225 m_42 m_226) rfl rfl rfl (by decide +kernel) ⟨Nat.le_of_ble_eq_true rfl, Nat.le_of_ble_eq_true rfl⟩) ⟨fun a U g mk q => by obtain ⟨q0, q1, qP, qK, qD⟩ := q; exact ⟨q0, q1, qP, va_K.moved (u := U) (U := U.calling g mk a) (Vm.Alike.refl U.vm) qK, qD⟩, va_recv hK hPc (ci := 5) (q0 := 0) rfl rfl, fun U hU hW => ⟨rfl, by rw [hU], by rw [hU]; exact hPc, va_K.moved hW.alike hK, hDc.weaken (fun _ _ _ _ => trivial)⟩⟩ rfl rfl hl.1 rfl (lv_room (Nat.le_of_ble_eq_true rfl)) d_Tree_grow_3 ⟨Nat.le_of_ble_eq_true rfl, Nat.le_of_ble_eq_true rfl⟩) hS (fun q _ h => hFc q h) hFc (fun r_1 u_1 t H1 locs ht hvm hq1 hB hz1 hk1 hS => ?_)
  obtain ⟨hP1, hK1, hD1⟩ := hB
  rw [ht] at hP1
  obtain ⟨hP, hD⟩ := va_join (wr := []) (w1 := [(to, .inr (5, [.ref ta, .int tr.2])), (ta, .inl (cI, 512, .inl tr.1))]) hP hD [0, 1] [] rfl rfl (by decide) (by decide) hk1 hFc hP1 hD1
  generalize H1 = H at hP hS ht ⊢
  have hP : va_P (dC, dI) classes [(to, .inr (5, [.ref ta, .int tr.2])), (ta, .inl (cI, 512, .inl tr.1))] H := hP
  have hD : va_D A [(to, .inr (5, [.ref ta, .int tr.2])), (ta, .inl (cI, 512, .inl tr.1))] := hD
  have er_1 : f_Tree_follow tr nd bt = r_1 := hq1.symm
  refine lv_if_ne (tgt := 39) hx hb d_Tree_grow_6 (by decide) (fun c_2 => ?_) (fun c_2 => ?_)
  · refine lv_aload_n hx hb d_Tree_grow_39 rfl (lv_at hl 0 rfl) ?_
    refine lv_iload_n hx hb d_Tree_grow_40 rfl (lv_at hl 1 rfl) ?_
    refine lv_iload_n hx hb d_Tree_grow_41 rfl (lv_at hl 2 rfl) ?_
    have hPc := hP.sub (ws' := [(to, .inr (5, [.ref ta, .int tr.2])), (ta, .inl (cI, 512, .inl tr.1))]) [0, 1] rfl
    have hDc := hD.sub (ws' := [(to, .inr (5, [.ref ta, .int tr.2])), (ta, .inl (cI, 512, .inl tr.1))]) [0, 1] (by decide) rfl
    have hFc := va_free (wc := [(to, .inr (5, [.ref ta, .int tr.2])), (ta, .inl (cI, 512, .inl tr.1))]) hD hS hA [0, 1] rfl
    refine va_calli (va_runV (As := [.int nd, .int bt]) (rest := []) ⟨hx, hb, hml, hown, hw⟩ (c_Tree_follow l dC dI cI cL to ta tr H.size nd bt) (cwV 2 hw (gd_V m_223 m_224 m_225 m_42 m_226) rfl rfl rfl (by decide +kernel) ⟨Nat.le_of_ble_eq_true rfl, Nat.le_of_ble_eq_true rfl⟩) ⟨fun a U g mk q => by obtain ⟨q0, q1, qP, qK, qD⟩ := q; exact ⟨q0, q1, qP, va_K.moved (u := U) (U := U.calling g mk a) (Vm.Alike.refl U.vm) qK, qD⟩, va_recv hK hPc (ci := 5) (q0 := 0) rfl rfl, fun U hU hW => ⟨rfl, by rw [hU], by rw [hU]; exact hPc, va_K.moved hW.alike hK, hDc.weaken (fun _ _ _ _ => trivial)⟩⟩ rfl rfl hl.1 rfl (lv_room (Nat.le_of_ble_eq_true rfl)) d_Tree_grow_42 ⟨Nat.le_of_ble_eq_true rfl, Nat.le_of_ble_eq_true rfl⟩) hS (fun q _ h => hFc q h) hFc (fun r_3 u_3 t H1 locs ht hvm hq3 hB hz1 hk1 hS => ?_)
    obtain ⟨hP1, hK1, hD1⟩ := hB
    rw [ht] at hP1
    obtain ⟨hP, hD⟩ := va_join (wr := []) (w1 := [(to, .inr (5, [.ref ta, .int tr.2])), (ta, .inl (cI, 512, .inl tr.1))]) hP hD [0, 1] [] rfl rfl (by decide) (by decide) hk1 hFc hP1 hD1
    generalize H1 = H at hP hS ht ⊢
    have hP : va_P (dC, dI) classes [(to, .inr (5, [.ref ta, .int tr.2])), (ta, .inl (cI, 512, .inl tr.1))] H := hP
    have hD : va_D A [(to, .inr (5, [.ref ta, .int tr.2])), (ta, .inl (cI, 512, .inl tr.1))] := hD
    have er_3 : f_Tree_follow tr nd bt = r_3 := hq3.symm
    have hP9 := hP.sub (ws' := [(to, .inr (5, [.ref ta, .int tr.2])), (ta, .inl (cI, 512, .inl tr.1))]) [0, 1] rfl
    have hD9 := hD.sub (ws' := [(to, .inr (5, [.ref ta, .int tr.2])), (ta, .inl (cI, 512, .inl tr.1))]) [0, 1] (by decide) rfl
    have hK9 := hK
    exact W.iret (v := r_3) hx hb hr (fun t ht hW => ⟨⟨r_3, tr, rfl, (by have h9 : f_Tree_grow tr nd bt = (r_3, tr) := (by subst er_1 er_3; exact ((if_neg c_2).trans (rfl))); exact ⟨(congrArg Prod.fst h9).symm, (congrArg Prod.snd h9).symm⟩), ⟨by rw [ht]; exact hP9, va_K.moved hW.alike hK9, hD9⟩⟩, hS.F ht⟩) hS.2.2 d_Tree_grow_45
  · refine lv_aload_n hx hb d_Tree_grow_9 rfl (lv_at hl 0 rfl) ?_
    refine va_get (D := (dC, dI)) (ci := 5) (v := .int tr.2) (C := R_Tree) (T := F_Tree) (N := 2) hx hb hw i_Tree hown hK hP 0 rfl rfl 1 (by decide) (hw _ m_248) (fun _ h9 => h9) rfl d_Tree_grow_10 ?_
    refine lv_sipush (v := 256) hx hb d_Tree_grow_13 (by decide) ?_
    refine lv_icmp_ge (tgt := 39) hx hb d_Tree_grow_16 (by decide) (fun c_4 => ?_) (fun c_4 => ?_)
    · refine lv_aload_n hx hb d_Tree_grow_39 rfl (lv_at hl 0 rfl) ?_
      refine lv_iload_n hx hb d_Tree_grow_40 rfl (lv_at hl 1 rfl) ?_
      refine lv_iload_n hx hb d_Tree_grow_41 rfl (lv_at hl 2 rfl) ?_
      have hPc := hP.sub (ws' := [(to, .inr (5, [.ref ta, .int tr.2])), (ta, .inl (cI, 512, .inl tr.1))]) [0, 1] rfl
      have hDc := hD.sub (ws' := [(to, .inr (5, [.ref ta, .int tr.2])), (ta, .inl (cI, 512, .inl tr.1))]) [0, 1] (by decide) rfl
      have hFc := va_free (wc := [(to, .inr (5, [.ref ta, .int tr.2])), (ta, .inl (cI, 512, .inl tr.1))]) hD hS hA [0, 1] rfl
      refine va_calli (va_runV (As := [.int nd, .int bt]) (rest := []) ⟨hx, hb, hml, hown, hw⟩ (c_Tree_follow l dC dI cI cL to ta tr H.size nd bt) (cwV 2 hw (gd_V m_223 m_224 m_225 m_42 m_226) rfl rfl rfl (by decide +kernel) ⟨Nat.le_of_ble_eq_true rfl, Nat.le_of_ble_eq_true rfl⟩) ⟨fun a U g mk q => by obtain ⟨q0, q1, qP, qK, qD⟩ := q; exact ⟨q0, q1, qP, va_K.moved (u := U) (U := U.calling g mk a) (Vm.Alike.refl U.vm) qK, qD⟩, va_recv hK hPc (ci := 5) (q0 := 0) rfl rfl, fun U hU hW => ⟨rfl, by rw [hU], by rw [hU]; exact hPc, va_K.moved hW.alike hK, hDc.weaken (fun _ _ _ _ => trivial)⟩⟩ rfl rfl hl.1 rfl (lv_room (Nat.le_of_ble_eq_true rfl)) d_Tree_grow_42 ⟨Nat.le_of_ble_eq_true rfl, Nat.le_of_ble_eq_true rfl⟩) hS (fun q _ h => hFc q h) hFc (fun r_5 u_5 t H1 locs ht hvm hq5 hB hz1 hk1 hS => ?_)
      obtain ⟨hP1, hK1, hD1⟩ := hB
      rw [ht] at hP1
      obtain ⟨hP, hD⟩ := va_join (wr := []) (w1 := [(to, .inr (5, [.ref ta, .int tr.2])), (ta, .inl (cI, 512, .inl tr.1))]) hP hD [0, 1] [] rfl rfl (by decide) (by decide) hk1 hFc hP1 hD1
      generalize H1 = H at hP hS ht ⊢
      have hP : va_P (dC, dI) classes [(to, .inr (5, [.ref ta, .int tr.2])), (ta, .inl (cI, 512, .inl tr.1))] H := hP
      have hD : va_D A [(to, .inr (5, [.ref ta, .int tr.2])), (ta, .inl (cI, 512, .inl tr.1))] := hD
      have er_5 : f_Tree_follow tr nd bt = r_5 := hq5.symm
      have hP9 := hP.sub (ws' := [(to, .inr (5, [.ref ta, .int tr.2])), (ta, .inl (cI, 512, .inl tr.1))]) [0, 1] rfl
      have hD9 := hD.sub (ws' := [(to, .inr (5, [.ref ta, .int tr.2])), (ta, .inl (cI, 512, .inl tr.1))]) [0, 1] (by decide) rfl
      have hK9 := hK
      exact W.iret (v := r_5) hx hb hr (fun t ht hW => ⟨⟨r_5, tr, rfl, (by have h9 : f_Tree_grow tr nd bt = (r_5, tr) := (by subst er_1 er_5; exact ((if_pos c_2).trans ((if_pos c_4).trans (rfl)))); exact ⟨(congrArg Prod.fst h9).symm, (congrArg Prod.snd h9).symm⟩), ⟨by rw [ht]; exact hP9, va_K.moved hW.alike hK9, hD9⟩⟩, hS.F ht⟩) hS.2.2 d_Tree_grow_45
    · refine lv_aload_n hx hb d_Tree_grow_19 rfl (lv_at hl 0 rfl) ?_
      refine lv_iload_n hx hb d_Tree_grow_20 rfl (lv_at hl 1 rfl) ?_
      refine lv_iload_n hx hb d_Tree_grow_21 rfl (lv_at hl 2 rfl) ?_
      refine lv_aload_n hx hb d_Tree_grow_22 rfl (lv_at hl 0 rfl) ?_
      refine va_get (D := (dC, dI)) (ci := 5) (v := .int tr.2) (C := R_Tree) (T := F_Tree) (N := 2) hx hb hw i_Tree hown hK hP 0 rfl rfl 1 (by decide) (hw _ m_248) (fun _ h9 => h9) rfl d_Tree_grow_23 ?_
      have hPc := hP.sub (ws' := [(to, .inr (5, [.ref ta, .int tr.2])), (ta, .inl (cI, 512, .inl tr.1))]) [0, 1] rfl
      have hDc := hD.sub (ws' := [(to, .inr (5, [.ref ta, .int tr.2])), (ta, .inl (cI, 512, .inl tr.1))]) [0, 1] (by decide) rfl
      have hFc := va_free (wc := [(to, .inr (5, [.ref ta, .int tr.2])), (ta, .inl (cI, 512, .inl tr.1))]) hD hS hA [0, 1] rfl
      refine va_callv (va_runV (As := [.int nd, .int bt, .int tr.2]) (rest := []) ⟨hx, hb, hml, hown, hw⟩ (c_Tree_set l dC dI cI cL to ta H.size tr nd bt tr.2) (cwV 3 hw (gd_V m_227 m_229 m_2 m_42 m_230) rfl rfl rfl (by decide +kernel) ⟨Nat.le_of_ble_eq_true rfl, Nat.le_of_ble_eq_true rfl⟩) ⟨fun a U g mk q => by obtain ⟨q0, q1, qP, qK, qD⟩ := q; exact ⟨q0, q1, qP, va_K.moved (u := U) (U := U.calling g mk a) (Vm.Alike.refl U.vm) qK, qD⟩, va_recv hK hPc (ci := 5) (q0 := 0) rfl rfl, fun U hU hW => ⟨rfl, by rw [hU], by rw [hU]; exact hPc, va_K.moved hW.alike hK, hDc.weaken (fun _ _ _ _ => trivial)⟩⟩ rfl rfl hl.1 rfl (lv_room (Nat.le_of_ble_eq_true rfl)) d_Tree_grow_26 ⟨Nat.le_of_ble_eq_true rfl, Nat.le_of_ble_eq_true rfl⟩) hS (fun q _ h => hFc q h) hFc (fun u_6 t H1 locs ht hvm hq6 hB hz1 hk1 hS => ?_)
      obtain ⟨hP1, hK1, hD1⟩ := hB
      rw [ht] at hP1
      obtain ⟨hP, hD⟩ := va_join (wr := []) (w1 := [(to, .inr (5, [.ref ta, .int u_6.2])), (ta, .inl (cI, 512, .inl u_6.1))]) hP hD [0, 1] [] rfl rfl (by decide) (by decide) hk1 hFc hP1 hD1
      generalize H1 = H at hP hS ht ⊢
      have hP : va_P (dC, dI) classes [(to, .inr (5, [.ref ta, .int u_6.2])), (ta, .inl (cI, 512, .inl u_6.1))] H := hP
      have hD : va_D A [(to, .inr (5, [.ref ta, .int u_6.2])), (ta, .inl (cI, 512, .inl u_6.1))] := hD
      have eu_6 : f_Tree_set tr nd bt tr.2 = u_6 := hq6.symm
      refine lv_aload_n hx hb d_Tree_grow_29 rfl (lv_at hl 0 rfl) ?_
      refine lv_dup hx hb d_Tree_grow_30 rfl ?_
      refine va_get (D := (dC, dI)) (ci := 5) (v := .int u_6.2) (C := R_Tree) (T := F_Tree) (N := 2) hx hb hw i_Tree hown hK hP 0 rfl rfl 1 (by decide) (hw _ m_248) (fun _ h9 => h9) rfl d_Tree_grow_31 ?_
      refine lv_iconst (v := 1) hx hb d_Tree_grow_34 (by decide) ?_
      refine lv_iadd hx hb d_Tree_grow_35 ?_
      refine lv_topi (fun x_7 ex_7 => ?_)
      replace ex_7 := ex_7.symm
      refine va_put (D := (dC, dI)) (ci := 5) (v := .int x_7) (ty := .int) (C := R_Tree) (T := F_Tree) (N := 2) hx hb hw i_Tree t_Tree t_Tree_ok n_Tree hown hK hP hD hS 0 rfl rfl 1 (by decide) (hw _ m_248) (fun _ h9 => h9) rfl (by decide +kernel) rfl rfl (Nat.le_of_ble_eq_true rfl) d_Tree_grow_36 (fun H locs hP hD hS => ?_)
      have hP : va_P (dC, dI) classes [(to, .inr (5, [.ref ta, .int x_7])), (ta, .inl (cI, 512, .inl u_6.1))] H := hP
      have hD : va_D A [(to, .inr (5, [.ref ta, .int x_7])), (ta, .inl (cI, 512, .inl u_6.1))] := hD
      refine lv_aload_n hx hb d_Tree_grow_39 rfl (lv_at hl 0 rfl) ?_
      refine lv_iload_n hx hb d_Tree_grow_40 rfl (lv_at hl 1 rfl) ?_
      refine lv_iload_n hx hb d_Tree_grow_41 rfl (lv_at hl 2 rfl) ?_
      have hPc := hP.sub (ws' := [(to, .inr (5, [.ref ta, .int x_7])), (ta, .inl (cI, 512, .inl u_6.1))]) [0, 1] rfl
      have hDc := hD.sub (ws' := [(to, .inr (5, [.ref ta, .int x_7])), (ta, .inl (cI, 512, .inl u_6.1))]) [0, 1] (by decide) rfl
      have hFc := va_free (wc := [(to, .inr (5, [.ref ta, .int x_7])), (ta, .inl (cI, 512, .inl u_6.1))]) hD hS hA [0, 1] rfl
      refine va_calli (va_runV (As := [.int nd, .int bt]) (rest := []) ⟨hx, hb, hml, hown, hw⟩ (c_Tree_follow l dC dI cI cL to ta (u_6.1, x_7) H.size nd bt) (cwV 2 hw (gd_V m_223 m_224 m_225 m_42 m_226) rfl rfl rfl (by decide +kernel) ⟨Nat.le_of_ble_eq_true rfl, Nat.le_of_ble_eq_true rfl⟩) ⟨fun a U g mk q => by obtain ⟨q0, q1, qP, qK, qD⟩ := q; exact ⟨q0, q1, qP, va_K.moved (u := U) (U := U.calling g mk a) (Vm.Alike.refl U.vm) qK, qD⟩, va_recv hK hPc (ci := 5) (q0 := 0) rfl rfl, fun U hU hW => ⟨rfl, by rw [hU], by rw [hU]; exact hPc, va_K.moved hW.alike hK, hDc.weaken (fun _ _ _ _ => trivial)⟩⟩ rfl rfl hl.1 rfl (lv_room (Nat.le_of_ble_eq_true rfl)) d_Tree_grow_42 ⟨Nat.le_of_ble_eq_true rfl, Nat.le_of_ble_eq_true rfl⟩) hS (fun q _ h => hFc q h) hFc (fun r_8 u_8 t H1 locs ht hvm hq8 hB hz1 hk1 hS => ?_)
      obtain ⟨hP1, hK1, hD1⟩ := hB
      rw [ht] at hP1
      obtain ⟨hP, hD⟩ := va_join (wr := []) (w1 := [(to, .inr (5, [.ref ta, .int x_7])), (ta, .inl (cI, 512, .inl u_6.1))]) hP hD [0, 1] [] rfl rfl (by decide) (by decide) hk1 hFc hP1 hD1
      generalize H1 = H at hP hS ht ⊢
      have hP : va_P (dC, dI) classes [(to, .inr (5, [.ref ta, .int x_7])), (ta, .inl (cI, 512, .inl u_6.1))] H := hP
      have hD : va_D A [(to, .inr (5, [.ref ta, .int x_7])), (ta, .inl (cI, 512, .inl u_6.1))] := hD
      have er_8 : f_Tree_follow (u_6.1, x_7) nd bt = r_8 := hq8.symm
      have hP9 := hP.sub (ws' := [(to, .inr (5, [.ref ta, .int x_7])), (ta, .inl (cI, 512, .inl u_6.1))]) [0, 1] rfl
      have hD9 := hD.sub (ws' := [(to, .inr (5, [.ref ta, .int x_7])), (ta, .inl (cI, 512, .inl u_6.1))]) [0, 1] (by decide) rfl
      have hK9 := hK
      exact W.iret (v := r_8) hx hb hr (fun t ht hW => ⟨⟨r_8, (u_6.1, x_7), rfl, (by have h9 : f_Tree_grow tr nd bt = (r_8, (u_6.1, x_7)) := (by subst er_1 eu_6 ex_7 er_8; exact ((if_pos c_2).trans ((if_neg c_4).trans (rfl)))); exact ⟨(congrArg Prod.fst h9).symm, (congrArg Prod.snd h9).symm⟩), ⟨by rw [ht]; exact hP9, va_K.moved hW.alike hK9, hD9⟩⟩, hS.F ht⟩) hS.2.2 d_Tree_grow_45
def l_Tree_put_11 (tr : (Nat → Int32) × Int32) (ro : Int32) (wo : Int32) (me : Int32) : Nat → ((Nat → Int32) × Int32) → Int32 → Int32 → ((Nat → Int32) × Int32)
  | 0, _, _, _ => default
  | n11 + 1, z, nd, i => if i ≤ 0 then (let u_4 := f_Tree_set z nd (wo &&& 1) (me ^^^ (-1)); u_4) else (let r_5 := (f_Tree_grow z nd ((wo >>> (i &&& 31)) &&& 1)).1; let u_5 := (f_Tree_grow z nd ((wo >>> (i &&& 31)) &&& 1)).2; let x_6 := i + (-1); l_Tree_put_11 tr ro wo me n11 u_5 r_5 x_6)
def f_Tree_put (tr : (Nat → Int32) × Int32) (ro : Int32) (wo : Int32) (me : Int32) : ((Nat → Int32) × Int32) := let r_1 := f_Words_length wo; let x_2 := r_1 - 1; l_Tree_put_11 tr ro wo me ((Int32.toInt x_2).toNat + 1) tr ro x_2
set_option maxHeartbeats 4000000 in
set_option maxRecDepth 100000 in
theorem c_Tree_put (l : Launch) (dC : Nat → ClassId) (dI : Nat → Nat → Nat) (cI cL : ClassId) (to : Nat) (ta : Nat) (sz : Nat) (tr : (Nat → Int32) × Int32) (ro : Int32) (wo : Int32) (me : Int32)  : Met l y_Tree_put w_Tree_put ({ frames := 2, cells := 0, slots := 0, locals := 46 }) (va_Pc [.ref to, .int ro, .int wo, .int me] (fun U => U.heap.size = sz ∧ va_P (dC, dI) classes [(to, .inr (5, [.ref ta, .int tr.2])), (ta, .inl (cI, 512, .inl tr.1))] U.heap ∧ va_K (dC, dI) classes [(cI, .int), (cL, .long)] U ∧ va_D (fun _ => True) [(to, .inr (5, [.ref ta, .int tr.2])), (ta, .inl (cI, 512, .inl tr.1))])) (va_Qv (fun (u : ((Nat → Int32) × Int32)) => u = f_Tree_put tr ro wo me) (fun (u : ((Nat → Int32) × Int32)) (t : State) => va_P (dC, dI) classes [(to, .inr (5, [.ref ta, .int u.2])), (ta, .inl (cI, 512, .inl u.1))] t.heap ∧ va_K (dC, dI) classes [(cI, .int), (cL, .long)] t ∧ va_D (va_A [(to, .inr (5, [.ref ta, .int tr.2])), (ta, .inl (cI, 512, .inl tr.1))] sz) [(to, .inr (5, [.ref ta, .int u.2])), (ta, .inl (cI, 512, .inl u.1))]) (va_A [(to, .inr (5, [.ref ta, .int tr.2])), (ta, .inl (cI, 512, .inl tr.1))] sz)) 0 0 (va_A [(to, .inr (5, [.ref ta, .int tr.2])), (ta, .inl (cI, 512, .inl tr.1))] sz) := by
  refine Met.ofW (cc := b_Tree_put) (maxL := 6) (ret := none) (by decide) rfl ?_
  intro p e s m args below meth c s₁ B hml hv
  obtain ⟨rfl, hsz, hP, hK, hD0⟩ := hv
  have hx := B.exec
  have hb := B.bytes
  have hr := B.returns
  have hts := atoms_spec (ws := w_Tree_put) B.pre
  have hw : ∀ w ∈ WA, w.before _ s = true := fun w h => hts w (List.mem_cons_of_mem _ h)
  have hown : s.vm.findClass R_Tree = some m.cls := findClass_of_methodNamed B.named
  have hlocks := B.notSynchronized
  subst hsz
  have hD := hD0.self (sz := s.heap.size)
  generalize hAe : va_A [(to, .inr (5, [.ref ta, .int tr.2])), (ta, .inl (cI, 512, .inl tr.1))] s.heap.size = A at hD ⊢
  have hA : ∀ q : Nat, s.heap.size ≤ q → A q := fun q h => by rw [← hAe]; exact Or.inr h
  have hS : va_S A s.heap s.heap [] := va_S.rf
  have hP : va_P (dC, dI) classes [(to, .inr (5, [.ref ta, .int tr.2])), (ta, .inl (cI, 512, .inl tr.1))] s.heap := hP
  have hl := lv_entry ([.ref to, .int ro, .int wo, .int me]) (n := 6) (Nat.le_of_ble_eq_true rfl)
  rw [lg_entry_eq]
  generalize (lg_sl ([.ref to, .int ro, .int wo, .int me]) ++ List.replicate (6 - (lg_sl ([.ref to, .int ro, .int wo, .int me])).length) Slot.unset).toArray = ls at hl ⊢
  have hl : lv_has ls 6 [(0, .ref to), (1, .int ro), (2, .int wo), (3, .int me)] := hl
  refine lv_iload_n hx hb d_Tree_put_0 rfl (lv_at hl 1 rfl) ?_
  refine lv_istore (lv' := [(4, .int ro), (0, .ref to), (1, .int ro), (2, .int wo), (3, .int me)]) hx hb d_Tree_put_1 hl (by decide) rfl (fun ls hl => ?_)
  refine lv_iload_n hx hb d_Tree_put_3 rfl (lv_at hl 3 rfl) ?_
  have hPc := hP.sub (ws' := []) [] rfl
  have hDc := hD.sub (ws' := []) [] (by decide) rfl
  have hFc := va_free (wc := []) hD hS hA [] rfl
  refine va_calli (va_runS (As := [.int wo]) (rest := []) ⟨hx, hb, hml, hown, hw⟩ (c_Words_length l dC dI cI cL s.heap.size wo) (va_cwS 1 hw (gd_S m_212 m_213 m_43 m_214) rfl rfl rfl (by decide +kernel) ⟨Nat.le_of_ble_eq_true rfl, Nat.le_of_ble_eq_true rfl⟩) ⟨fun a U g mk q => by obtain ⟨q0, q1, qP, qK, qD⟩ := q; exact ⟨q0, q1, qP, va_K.moved (u := U) (U := U.calling g mk a) (Vm.Alike.refl U.vm) qK, qD⟩, fun U hU hW => ⟨rfl, by rw [hU], by rw [hU]; exact hPc, va_K.moved hW.alike hK, hDc.weaken (fun _ _ _ _ => trivial)⟩⟩ rfl rfl hl.1 rfl (lv_room (Nat.le_of_ble_eq_true rfl)) d_Tree_put_4 ⟨Nat.le_of_ble_eq_true rfl, Nat.le_of_ble_eq_true rfl⟩) hS (fun q _ h => hFc q h) hFc (fun r_1 u_1 t H1 locs ht hvm hq1 hB hz1 hk1 hS => ?_)
  obtain ⟨hP1, hK1, hD1⟩ := hB
  rw [ht] at hP1
  obtain ⟨hP, hD⟩ := va_join (wr := [(to, .inr (5, [.ref ta, .int tr.2])), (ta, .inl (cI, 512, .inl tr.1))]) (w1 := []) hP hD [] [0, 1] rfl rfl (by decide) (by decide) hk1 hFc hP1 hD1
  generalize H1 = H at hP hS ht ⊢
  have hP : va_P (dC, dI) classes [(to, .inr (5, [.ref ta, .int tr.2])), (ta, .inl (cI, 512, .inl tr.1))] H := hP
  have hD : va_D A [(to, .inr (5, [.ref ta, .int tr.2])), (ta, .inl (cI, 512, .inl tr.1))] := hD
  have er_1 : f_Words_length wo = r_1 := hq1.symm
  refine lv_iconst (v := 1) hx hb d_Tree_put_7 (by decide) ?_
  refine lv_isub hx hb d_Tree_put_8 ?_
  refine lv_topi (fun x_2 ex_2 => ?_)
  replace ex_2 := ex_2.symm
  refine lv_istore (lv' := [(5, .int x_2), (4, .int ro), (0, .ref to), (1, .int ro), (2, .int wo), (3, .int me)]) hx hb d_Tree_put_9 hl (by decide) rfl (fun ls hl => ?_)
  have hF9 : f_Tree_put tr ro wo me = l_Tree_put_11 tr ro wo me ((Int32.toInt x_2).toNat + 1) tr ro x_2 := (by subst er_1 ex_2; exact (rfl))
  have hI9 : True := (by subst er_1 ex_2; trivial)
  have hP9 := hP.sub (ws' := [(to, .inr (5, [.ref ta, .int tr.2])), (ta, .inl (cI, 512, .inl tr.1))]) [0, 1] rfl
  have hD9 := hD.sub (ws' := [(to, .inr (5, [.ref ta, .int tr.2])), (ta, .inl (cI, 512, .inl tr.1))]) [0, 1] (by decide) rfl
  have hl9 := lv_sub (l' := [(5, .int x_2), (4, .int ro), (0, .ref to), (1, .int ro), (2, .int wo), (3, .int me)]) hl [0, 1, 2, 3, 4, 5] rfl
  refine lp_n (pc := 11) (σ := ((Nat → Int32) × Int32) × Int32 × Int32) (I := fun n v H locs ls => (Int32.toInt v.2.2).toNat < n ∧ f_Tree_put tr ro wo me = l_Tree_put_11 tr ro wo me n v.1 v.2.1 v.2.2 ∧ (True) ∧ va_P (dC, dI) classes [(to, .inr (5, [.ref ta, .int v.1.2])), (ta, .inl (cI, 512, .inl v.1.1))] H ∧ va_D A [(to, .inr (5, [.ref ta, .int v.1.2])), (ta, .inl (cI, 512, .inl v.1.1))] ∧ va_S A s.heap H locs ∧ lv_has ls 6 [(5, .int v.2.2), (4, .int v.2.1), (0, .ref to), (1, .int ro), (2, .int wo), (3, .int me)]) (fun v H locs ls h => absurd h.1 (Nat.not_lt_zero _)) ?_ ((Int32.toInt x_2).toNat + 1) (tr, ro, x_2) _ _ _ ⟨Nat.lt_succ_self _, hF9, hI9, hP9, hD9, hS, hl9⟩
  intro n11 ih11 v H locs ls hI
  obtain ⟨z, nd, i⟩ := v
  obtain ⟨hmu11, hF11, hinv, hP, hD, hS, hl⟩ := hI
  have hmu11 : (Int32.toInt i).toNat < n11 + 1 := hmu11
  have hF11 : f_Tree_put tr ro wo me = l_Tree_put_11 tr ro wo me (n11 + 1) z nd i := hF11
  have hP : va_P (dC, dI) classes [(to, .inr (5, [.ref ta, .int z.2])), (ta, .inl (cI, 512, .inl z.1))] H := hP
  have hD : va_D A [(to, .inr (5, [.ref ta, .int z.2])), (ta, .inl (cI, 512, .inl z.1))] := hD
  have hl : lv_has ls 6 [(5, .int i), (4, .int nd), (0, .ref to), (1, .int ro), (2, .int wo), (3, .int me)] := hl
  refine lv_iload hx hb d_Tree_put_11 (lv_at hl 0 rfl) ?_
  refine lv_if_le (tgt := 36) hx hb d_Tree_put_13 (by decide) (fun c_3 => ?_) (fun c_3 => ?_)
  · refine lv_aload_n hx hb d_Tree_put_36 rfl (lv_at hl 2 rfl) ?_
    refine lv_iload hx hb d_Tree_put_37 (lv_at hl 1 rfl) ?_
    refine lv_iload_n hx hb d_Tree_put_39 rfl (lv_at hl 4 rfl) ?_
    refine lv_iconst (v := 1) hx hb d_Tree_put_40 (by decide) ?_
    refine lv_iand hx hb d_Tree_put_41 ?_
    refine lv_iload_n hx hb d_Tree_put_42 rfl (lv_at hl 5 rfl) ?_
    refine lv_iconst (v := (-1)) hx hb d_Tree_put_43 (by decide) ?_
    refine lv_ixor hx hb d_Tree_put_44 ?_
    have hPc := hP.sub (ws' := [(to, .inr (5, [.ref ta, .int z.2])), (ta, .inl (cI, 512, .inl z.1))]) [0, 1] rfl
    have hDc := hD.sub (ws' := [(to, .inr (5, [.ref ta, .int z.2])), (ta, .inl (cI, 512, .inl z.1))]) [0, 1] (by decide) rfl
    have hFc := va_free (wc := [(to, .inr (5, [.ref ta, .int z.2])), (ta, .inl (cI, 512, .inl z.1))]) hD hS hA [0, 1] rfl
    refine va_callv (va_runV (As := [.int nd, .int (wo &&& 1), .int (me ^^^ (-1))]) (rest := []) ⟨hx, hb, hml, hown, hw⟩ (c_Tree_set l dC dI cI cL to ta H.size z nd (wo &&& 1) (me ^^^ (-1))) (cwV 3 hw (gd_V m_227 m_229 m_2 m_42 m_230) rfl rfl rfl (by decide +kernel) ⟨Nat.le_of_ble_eq_true rfl, Nat.le_of_ble_eq_true rfl⟩) ⟨fun a U g mk q => by obtain ⟨q0, q1, qP, qK, qD⟩ := q; exact ⟨q0, q1, qP, va_K.moved (u := U) (U := U.calling g mk a) (Vm.Alike.refl U.vm) qK, qD⟩, va_recv hK hPc (ci := 5) (q0 := 0) rfl rfl, fun U hU hW => ⟨rfl, by rw [hU], by rw [hU]; exact hPc, va_K.moved hW.alike hK, hDc.weaken (fun _ _ _ _ => trivial)⟩⟩ rfl rfl hl.1 rfl (lv_room (Nat.le_of_ble_eq_true rfl)) d_Tree_put_45 ⟨Nat.le_of_ble_eq_true rfl, Nat.le_of_ble_eq_true rfl⟩) hS (fun q _ h => hFc q h) hFc (fun u_4 t H1 locs ht hvm hq4 hB hz1 hk1 hS => ?_)
    obtain ⟨hP1, hK1, hD1⟩ := hB
    rw [ht] at hP1
    obtain ⟨hP, hD⟩ := va_join (wr := []) (w1 := [(to, .inr (5, [.ref ta, .int u_4.2])), (ta, .inl (cI, 512, .inl u_4.1))]) hP hD [0, 1] [] rfl rfl (by decide) (by decide) hk1 hFc hP1 hD1
    generalize H1 = H at hP hS ht ⊢
    have hP : va_P (dC, dI) classes [(to, .inr (5, [.ref ta, .int u_4.2])), (ta, .inl (cI, 512, .inl u_4.1))] H := hP
    have hD : va_D A [(to, .inr (5, [.ref ta, .int u_4.2])), (ta, .inl (cI, 512, .inl u_4.1))] := hD
    have eu_4 : f_Tree_set z nd (wo &&& 1) (me ^^^ (-1)) = u_4 := hq4.symm
    have hP9 := hP.sub (ws' := [(to, .inr (5, [.ref ta, .int u_4.2])), (ta, .inl (cI, 512, .inl u_4.1))]) [0, 1] rfl
    have hD9 := hD.sub (ws' := [(to, .inr (5, [.ref ta, .int u_4.2])), (ta, .inl (cI, 512, .inl u_4.1))]) [0, 1] (by decide) rfl
    have hK9 := hK
    exact W.vret hx hb hr (fun t ht hW => ⟨⟨u_4, rfl, (by have h9 : f_Tree_put tr ro wo me = u_4 := (by subst eu_4; exact (hF11.trans ((if_pos c_3).trans (rfl)))); exact h9.symm), ⟨by rw [ht]; exact hP9, va_K.moved hW.alike hK9, hD9⟩⟩, hS.F ht⟩) hS.2.2 d_Tree_put_48
  · refine lv_aload_n hx hb d_Tree_put_16 rfl (lv_at hl 2 rfl) ?_
    refine lv_iload hx hb d_Tree_put_17 (lv_at hl 1 rfl) ?_
    refine lv_iload_n hx hb d_Tree_put_19 rfl (lv_at hl 4 rfl) ?_
    refine lv_iload hx hb d_Tree_put_20 (lv_at hl 0 rfl) ?_
    refine lv_ishr hx hb d_Tree_put_22 ?_
    refine lv_iconst (v := 1) hx hb d_Tree_put_23 (by decide) ?_
    refine lv_iand hx hb d_Tree_put_24 ?_
    have hPc := hP.sub (ws' := [(to, .inr (5, [.ref ta, .int z.2])), (ta, .inl (cI, 512, .inl z.1))]) [0, 1] rfl
    have hDc := hD.sub (ws' := [(to, .inr (5, [.ref ta, .int z.2])), (ta, .inl (cI, 512, .inl z.1))]) [0, 1] (by decide) rfl
    have hFc := va_free (wc := [(to, .inr (5, [.ref ta, .int z.2])), (ta, .inl (cI, 512, .inl z.1))]) hD hS hA [0, 1] rfl
    refine va_calli (va_runV (As := [.int nd, .int ((wo >>> (i &&& 31)) &&& 1)]) (rest := []) ⟨hx, hb, hml, hown, hw⟩ (c_Tree_grow l dC dI cI cL to ta H.size z nd ((wo >>> (i &&& 31)) &&& 1)) (cwV 2 hw (gd_V m_219 m_221 m_1 m_42 m_222) rfl rfl rfl (by decide +kernel) ⟨Nat.le_of_ble_eq_true rfl, Nat.le_of_ble_eq_true rfl⟩) ⟨fun a U g mk q => by obtain ⟨q0, q1, qP, qK, qD⟩ := q; exact ⟨q0, q1, qP, va_K.moved (u := U) (U := U.calling g mk a) (Vm.Alike.refl U.vm) qK, qD⟩, va_recv hK hPc (ci := 5) (q0 := 0) rfl rfl, fun U hU hW => ⟨rfl, by rw [hU], by rw [hU]; exact hPc, va_K.moved hW.alike hK, hDc.weaken (fun _ _ _ _ => trivial)⟩⟩ rfl rfl hl.1 rfl (lv_room (Nat.le_of_ble_eq_true rfl)) d_Tree_put_25 ⟨Nat.le_of_ble_eq_true rfl, Nat.le_of_ble_eq_true rfl⟩) hS (fun q _ h => hFc q h) hFc (fun r_5 u_5 t H1 locs ht hvm hq5 hB hz1 hk1 hS => ?_)
    obtain ⟨hP1, hK1, hD1⟩ := hB
    rw [ht] at hP1
    obtain ⟨hP, hD⟩ := va_join (wr := []) (w1 := [(to, .inr (5, [.ref ta, .int u_5.2])), (ta, .inl (cI, 512, .inl u_5.1))]) hP hD [0, 1] [] rfl rfl (by decide) (by decide) hk1 hFc hP1 hD1
    generalize H1 = H at hP hS ht ⊢
    have hP : va_P (dC, dI) classes [(to, .inr (5, [.ref ta, .int u_5.2])), (ta, .inl (cI, 512, .inl u_5.1))] H := hP
    have hD : va_D A [(to, .inr (5, [.ref ta, .int u_5.2])), (ta, .inl (cI, 512, .inl u_5.1))] := hD
    have er_5 : (f_Tree_grow z nd ((wo >>> (i &&& 31)) &&& 1)).1 = r_5 := hq5.1.symm
    have eu_5 : (f_Tree_grow z nd ((wo >>> (i &&& 31)) &&& 1)).2 = u_5 := hq5.2.symm
    refine lv_istore (lv' := [(4, .int r_5), (5, .int i), (0, .ref to), (1, .int ro), (2, .int wo), (3, .int me)]) hx hb d_Tree_put_28 hl (by decide) rfl (fun ls hl => ?_)
    obtain ⟨x_6, ex_6⟩ : ∃ y : Int32, y = i + (-1) := ⟨_, rfl⟩
    refine lv_iinc (v := x_6) (lv' := [(5, .int x_6), (4, .int r_5), (0, .ref to), (1, .int ro), (2, .int wo), (3, .int me)]) hx hb d_Tree_put_30 hl (k := 1) rfl (by rw [ex_6]; rfl) (by decide) rfl (fun ls hl => ?_)
    replace ex_6 := ex_6.symm
    refine lv_goto (tgt := 11) hx hb d_Tree_put_33 (by decide) ?_
    have hF9 : f_Tree_put tr ro wo me = l_Tree_put_11 tr ro wo me n11 u_5 r_5 x_6 := (by subst er_5 eu_5 ex_6; exact (hF11.trans ((if_neg c_3).trans (rfl))))
    have hI9 : True := (by subst er_5 eu_5 ex_6; trivial)
    have hP9 := hP.sub (ws' := [(to, .inr (5, [.ref ta, .int u_5.2])), (ta, .inl (cI, 512, .inl u_5.1))]) [0, 1] rfl
    have hD9 := hD.sub (ws' := [(to, .inr (5, [.ref ta, .int u_5.2])), (ta, .inl (cI, 512, .inl u_5.1))]) [0, 1] (by decide) rfl
    have hl9 := lv_sub (l' := [(5, .int x_6), (4, .int r_5), (0, .ref to), (1, .int ro), (2, .int wo), (3, .int me)]) hl [0, 1, 2, 3, 4, 5] rfl
    have hm9 : (Int32.toInt x_6).toNat < (Int32.toInt i).toNat := (by subst er_5 eu_5 ex_6; exact mu_d c_3)
    exact ih11 (u_5, r_5, x_6) _ _ _ ⟨Nat.lt_of_lt_of_le hm9 (Nat.le_of_lt_succ hmu11), hF9, hI9, hP9, hD9, hS, hl9⟩
