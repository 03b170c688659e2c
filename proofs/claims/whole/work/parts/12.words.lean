def f_Words_at (tn : Nat) (tf : Nat → Int32) (i : Int32) : Int32 := if i < 0 then (1) else (if i < (nI tn) then (tf i.toNatClampNeg) else (1))
set_option maxHeartbeats 4000000 in
set_option maxRecDepth 100000 in
theorem c_Words_at (l : Launch) (dC : Nat → ClassId) (dI : Nat → Nat → Nat) (cI cL : ClassId) (t : Nat) (tn : Nat) (tf : Nat → Int32) (sz : Nat)  (i : Int32) (htn : tn < 2147483648) : Met l y_Words_at w_Words_at ({ frames := 0, cells := 0, slots := 0, locals := 0 }) (va_Pc [.ref t, .int i] (fun U => U.heap.size = sz ∧ va_P (dC, dI) classes [] U.heap ∧ va_K (dC, dI) classes [(cI, .int), (cL, .long)] U ∧ va_D (fun _ => True) [] ∧ va_T .int t tn (fun j => .int (tf j)) (va_A [] sz) U U.heap)) (va_Qi (fun (r : Int32) (u : Unit) => r = f_Words_at tn tf i) (fun (u : Unit) (t : State) => va_P (dC, dI) classes [] t.heap ∧ va_K (dC, dI) classes [(cI, .int), (cL, .long)] t ∧ va_D (va_A [] sz) []) (va_A [] sz)) 0 0 (va_A [] sz) := by
  refine Met.ofW (cc := b_Words_at) (maxL := 2) (ret := (some .int)) (by decide) rfl ?_
  intro p e s m args below meth c s₁ B hml hv
  obtain ⟨rfl, hsz, hP, hK, hD0, hT0⟩ := hv
  have hx := B.exec
  have hb := B.bytes
  have hr := B.returns
  have hts := atoms_spec (ws := w_Words_at) B.pre
  have hw : ∀ w ∈ WA, w.before _ s = true := fun w h => hts w (List.mem_cons_of_mem _ h)
  have hown : s.vm.findClass R_Words = some m.cls := findClass_of_methodNamed B.named
  have hlocks := B.notSynchronized
  subst hsz
  have hD := hD0.self (sz := s.heap.size)
  generalize hAe : va_A [] s.heap.size = A at hD hT0 ⊢
  have hA : ∀ q : Nat, s.heap.size ≤ q → A q := fun q h => by rw [← hAe]; exact Or.inr h
  have hS : va_S A s.heap s.heap [] := va_S.rf
  have hP : va_P (dC, dI) classes [] s.heap := hP
  have hl := lv_entry ([.ref t, .int i]) (n := 2) (Nat.le_of_ble_eq_true rfl)
  rw [lg_entry_eq]
  generalize (lg_sl ([.ref t, .int i]) ++ List.replicate (2 - (lg_sl ([.ref t, .int i])).length) Slot.unset).toArray = ls at hl ⊢
  have hl : lv_has ls 2 [(0, .ref t), (1, .int i)] := hl
  refine lv_iload_n hx hb d_Words_at_0 rfl (lv_at hl 1 rfl) ?_
  refine lv_if_lt (tgt := 10) hx hb d_Words_at_1 (by decide) (fun c_1 => ?_) (fun c_1 => ?_)
  · refine lv_iconst (v := 1) hx hb d_Words_at_10 (by decide) ?_
    refine lv_goto (tgt := 17) hx hb d_Words_at_11 (by decide) ?_
    have hP9 := hP.sub (ws' := []) [] rfl
    have hD9 := hD.sub (ws' := []) [] (by decide) rfl
    have hK9 := hK
    exact W.iret (v := 1) hx hb hr (fun t ht hW => ⟨⟨1, (), rfl, (by have h9 : f_Words_at tn tf i = 1 := (by exact ((if_pos c_1).trans (rfl))); exact h9.symm), ⟨by rw [ht]; exact hP9, va_K.moved hW.alike hK9, hD9⟩⟩, hS.F ht⟩) hS.2.2 d_Words_at_17
  · refine lv_iload_n hx hb d_Words_at_4 rfl (lv_at hl 1 rfl) ?_
    refine lv_aload_n hx hb d_Words_at_5 rfl (lv_at hl 0 rfl) ?_
    refine va_tlen (v := nI tn) hx hb hT0 hS rfl d_Words_at_6 ?_
    refine lv_icmp_lt (tgt := 14) hx hb d_Words_at_7 (by decide) (fun c_2 => ?_) (fun c_2 => ?_)
    · refine lv_aload_n hx hb d_Words_at_14 rfl (lv_at hl 0 rfl) ?_
      refine lv_iload_n hx hb d_Words_at_15 rfl (lv_at hl 1 rfl) ?_
      refine va_ti hx hb hT0 hS (ix_a htn c_1 c_2) rfl d_Words_at_16 ?_
      have hP9 := hP.sub (ws' := []) [] rfl
      have hD9 := hD.sub (ws' := []) [] (by decide) rfl
      have hK9 := hK
      exact W.iret (v := tf i.toNatClampNeg) hx hb hr (fun t ht hW => ⟨⟨tf i.toNatClampNeg, (), rfl, (by have h9 : f_Words_at tn tf i = tf i.toNatClampNeg := (by exact ((if_neg c_1).trans ((if_pos c_2).trans (rfl)))); exact h9.symm), ⟨by rw [ht]; exact hP9, va_K.moved hW.alike hK9, hD9⟩⟩, hS.F ht⟩) hS.2.2 d_Words_at_17
    · refine lv_iconst (v := 1) hx hb d_Words_at_10 (by decide) ?_
      refine lv_goto (tgt := 17) hx hb d_Words_at_11 (by decide) ?_
      have hP9 := hP.sub (ws' := []) [] rfl
      have hD9 := hD.sub (ws' := []) [] (by decide) rfl
      have hK9 := hK
      exact W.iret (v := 1) hx hb hr (fun t ht hW => ⟨⟨1, (), rfl, (by have h9 : f_Words_at tn tf i = 1 := (by exact ((if_neg c_1).trans ((if_neg c_2).trans (rfl)))); exact h9.symm), ⟨by rw [ht]; exact hP9, va_K.moved hW.alike hK9, hD9⟩⟩, hS.F ht⟩) hS.2.2 d_Words_at_17
def f_Words_step (i : Int32) : Int32 := let r_2 := f_Words_at 10 tSt i; r_2
set_option maxHeartbeats 4000000 in
set_option maxRecDepth 100000 in
theorem c_Words_step (l : Launch) (dC : Nat → ClassId) (dI : Nat → Nat → Nat) (cI cL : ClassId)  (sz : Nat)  (i : Int32)  : Met l y_Words_step w_Words_step ({ frames := 1, cells := 0, slots := 0, locals := 21 }) (va_Pc [.int i] (fun U => U.heap.size = sz ∧ va_P (dC, dI) classes [] U.heap ∧ va_K (dC, dI) classes [(cI, .int), (cL, .long)] U ∧ va_D (fun _ => True) [] ∧ tb (va_A [] sz) U)) (va_Qi (fun (r : Int32) (u : Unit) => r = f_Words_step i) (fun (u : Unit) (t : State) => va_P (dC, dI) classes [] t.heap ∧ va_K (dC, dI) classes [(cI, .int), (cL, .long)] t ∧ va_D (va_A [] sz) []) (va_A [] sz)) 0 0 (va_A [] sz) := by
  refine Met.ofW (cc := b_Words_step) (maxL := 1) (ret := (some .int)) (by decide) rfl ?_
  intro p e s m args below meth c s₁ B hml hv
  obtain ⟨rfl, hsz, hP, hK, hD0, hT⟩ := hv
  have hx := B.exec
  have hb := B.bytes
  have hr := B.returns
  have hts := atoms_spec (ws := w_Words_step) B.pre
  have hw : ∀ w ∈ WA, w.before _ s = true := fun w h => hts w (List.mem_cons_of_mem _ h)
  have hown : s.vm.findClass R_Words = some m.cls := findClass_of_methodNamed B.named
  have hlocks := B.notSynchronized
  subst hsz
  have hD := hD0.self (sz := s.heap.size)
  generalize hAe : va_A [] s.heap.size = A at hD hT ⊢
  have hA : ∀ q : Nat, s.heap.size ≤ q → A q := fun q h => by rw [← hAe]; exact Or.inr h
  have hS : va_S A s.heap s.heap [] := va_S.rf
  have hP : va_P (dC, dI) classes [] s.heap := hP
  have hl := lv_entry ([.int i]) (n := 1) (Nat.le_of_ble_eq_true rfl)
  rw [lg_entry_eq]
  generalize (lg_sl ([.int i]) ++ List.replicate (1 - (lg_sl ([.int i])).length) Slot.unset).toArray = ls at hl ⊢
  have hl : lv_has ls 1 [(0, .int i)] := hl
  obtain ⟨t_1, hZ1, hT1⟩ := hT.1
  refine va_gets hx hb hZ1 hS hown (hw _ m_203) (fun _ h => h) d_Words_step_0 ?_
  refine lv_iload_n hx hb d_Words_step_3 rfl (lv_at hl 0 rfl) ?_
  have hPc := hP.sub (ws' := []) [] rfl
  have hDc := hD.sub (ws' := []) [] (by decide) rfl
  have hFc := va_free (wc := []) hD hS hA [] rfl
  refine va_calli (va_runS (As := [.ref t_1, .int i]) (rest := []) ⟨hx, hb, hml, hown, hw⟩ (c_Words_at l dC dI cI cL t_1 10 tSt s.heap.size i (by decide)) (va_cwS 2 hw (gd_S m_205 m_206 m_43 m_207) rfl rfl rfl (by decide +kernel) ⟨Nat.le_of_ble_eq_true rfl, Nat.le_of_ble_eq_true rfl⟩) ⟨fun a U g mk q => by obtain ⟨q0, q1, qP, qK, qD, qT⟩ := q; exact ⟨q0, q1, qP, va_K.moved (u := U) (U := U.calling g mk a) (Vm.Alike.refl U.vm) qK, qD, va_T.moved (u := U) (U := U.calling g mk a) (Vm.Alike.refl U.vm) qT⟩, fun U hU hW => ⟨rfl, by rw [hU], by rw [hU]; exact hPc, va_K.moved hW.alike hK, hDc.weaken (fun _ _ _ _ => trivial), by rw [hU]; exact ((hT1.kept (fun q h1 h2 => hS.2.1 q h1 h2)).narrow hFc).moved hW.alike⟩⟩ rfl rfl hl.1 rfl (lv_room (Nat.le_of_ble_eq_true rfl)) d_Words_step_4 ⟨Nat.le_of_ble_eq_true rfl, Nat.le_of_ble_eq_true rfl⟩) hS (fun q _ h => hFc q h) hFc (fun r_2 u_2 t H1 locs ht hvm hq2 hB hz1 hk1 hS => ?_)
  obtain ⟨hP1, hK1, hD1⟩ := hB
  rw [ht] at hP1
  obtain ⟨hP, hD⟩ := va_join (wr := []) (w1 := []) hP hD [] [] rfl rfl (by decide) (by decide) hk1 hFc hP1 hD1
  generalize H1 = H at hP hS ht ⊢
  have hP : va_P (dC, dI) classes [] H := hP
  have hD : va_D A [] := hD
  have er_2 : f_Words_at 10 tSt i = r_2 := hq2.symm
  have hP9 := hP.sub (ws' := []) [] rfl
  have hD9 := hD.sub (ws' := []) [] (by decide) rfl
  have hK9 := hK
  exact W.iret (v := r_2) hx hb hr (fun t ht hW => ⟨⟨r_2, (), rfl, (by have h9 : f_Words_step i = r_2 := (by subst er_2; exact (rfl)); exact h9.symm), ⟨by rw [ht]; exact hP9, va_K.moved hW.alike hK9, hD9⟩⟩, hS.F ht⟩) hS.2.2 d_Words_step_7
def f_Words_rest (i : Int32) (bk : Bool) : Int32 := if (bI bk) = 0 then (let r_3 := f_Words_at 64 tWR i; r_3) else (let r_5 := f_Words_at 64 tBR i; r_5)
set_option maxHeartbeats 4000000 in
set_option maxRecDepth 100000 in
theorem c_Words_rest (l : Launch) (dC : Nat → ClassId) (dI : Nat → Nat → Nat) (cI cL : ClassId)  (sz : Nat)  (i : Int32) (bk : Bool)  : Met l y_Words_rest w_Words_rest ({ frames := 1, cells := 0, slots := 0, locals := 21 }) (va_Pc [.int i, .int (bI bk)] (fun U => U.heap.size = sz ∧ va_P (dC, dI) classes [] U.heap ∧ va_K (dC, dI) classes [(cI, .int), (cL, .long)] U ∧ va_D (fun _ => True) [] ∧ tb (va_A [] sz) U)) (va_Qi (fun (r : Int32) (u : Unit) => r = f_Words_rest i bk) (fun (u : Unit) (t : State) => va_P (dC, dI) classes [] t.heap ∧ va_K (dC, dI) classes [(cI, .int), (cL, .long)] t ∧ va_D (va_A [] sz) []) (va_A [] sz)) 0 0 (va_A [] sz) := by
  refine Met.ofW (cc := b_Words_rest) (maxL := 2) (ret := (some .int)) (by decide) rfl ?_
  intro p e s m args below meth c s₁ B hml hv
  obtain ⟨rfl, hsz, hP, hK, hD0, hT⟩ := hv
  have hx := B.exec
  have hb := B.bytes
  have hr := B.returns
  have hts := atoms_spec (ws := w_Words_rest) B.pre
  have hw : ∀ w ∈ WA, w.before _ s = true := fun w h => hts w (List.mem_cons_of_mem _ h)
  have hown : s.vm.findClass R_Words = some m.cls := findClass_of_methodNamed B.named
  have hlocks := B.notSynchronized
  subst hsz
  have hD := hD0.self (sz := s.heap.size)
  generalize hAe : va_A [] s.heap.size = A at hD hT ⊢
  have hA : ∀ q : Nat, s.heap.size ≤ q → A q := fun q h => by rw [← hAe]; exact Or.inr h
  have hS : va_S A s.heap s.heap [] := va_S.rf
  have hP : va_P (dC, dI) classes [] s.heap := hP
  have hl := lv_entry ([.int i, .int (bI bk)]) (n := 2) (Nat.le_of_ble_eq_true rfl)
  rw [lg_entry_eq]
  generalize (lg_sl ([.int i, .int (bI bk)]) ++ List.replicate (2 - (lg_sl ([.int i, .int (bI bk)])).length) Slot.unset).toArray = ls at hl ⊢
  have hl : lv_has ls 2 [(0, .int i), (1, .int (bI bk))] := hl
  refine lv_iload_n hx hb d_Words_rest_0 rfl (lv_at hl 1 rfl) ?_
  refine lv_if_eq (tgt := 10) hx hb d_Words_rest_1 (by decide) (fun c_1 => ?_) (fun c_1 => ?_)
  · obtain ⟨t_2, hZ2, hT2⟩ := hT.2.1
    refine va_gets hx hb hZ2 hS hown (hw _ m_236) (fun _ h => h) d_Words_rest_10 ?_
    refine lv_iload_n hx hb d_Words_rest_13 rfl (lv_at hl 0 rfl) ?_
    have hPc := hP.sub (ws' := []) [] rfl
    have hDc := hD.sub (ws' := []) [] (by decide) rfl
    have hFc := va_free (wc := []) hD hS hA [] rfl
    refine va_calli (va_runS (As := [.ref t_2, .int i]) (rest := []) ⟨hx, hb, hml, hown, hw⟩ (c_Words_at l dC dI cI cL t_2 64 tWR s.heap.size i (by decide)) (va_cwS 2 hw (gd_S m_205 m_206 m_43 m_207) rfl rfl rfl (by decide +kernel) ⟨Nat.le_of_ble_eq_true rfl, Nat.le_of_ble_eq_true rfl⟩) ⟨fun a U g mk q => by obtain ⟨q0, q1, qP, qK, qD, qT⟩ := q; exact ⟨q0, q1, qP, va_K.moved (u := U) (U := U.calling g mk a) (Vm.Alike.refl U.vm) qK, qD, va_T.moved (u := U) (U := U.calling g mk a) (Vm.Alike.refl U.vm) qT⟩, fun U hU hW => ⟨rfl, by rw [hU], by rw [hU]; exact hPc, va_K.moved hW.alike hK, hDc.weaken (fun _ _ _ _ => trivial), by rw [hU]; exact ((hT2.kept (fun q h1 h2 => hS.2.1 q h1 h2)).narrow hFc).moved hW.alike⟩⟩ rfl rfl hl.1 rfl (lv_room (Nat.le_of_ble_eq_true rfl)) d_Words_rest_14 ⟨Nat.le_of_ble_eq_true rfl, Nat.le_of_ble_eq_true rfl⟩) hS (fun q _ h => hFc q h) hFc (fun r_3 u_3 t H1 locs ht hvm hq3 hB hz1 hk1 hS => ?_)
    obtain ⟨hP1, hK1, hD1⟩ := hB
    rw [ht] at hP1
    obtain ⟨hP, hD⟩ := va_join (wr := []) (w1 := []) hP hD [] [] rfl rfl (by decide) (by decide) hk1 hFc hP1 hD1
    generalize H1 = H at hP hS ht ⊢
    have hP : va_P (dC, dI) classes [] H := hP
    have hD : va_D A [] := hD
    have er_3 : f_Words_at 64 tWR i = r_3 := hq3.symm
    have hP9 := hP.sub (ws' := []) [] rfl
    have hD9 := hD.sub (ws' := []) [] (by decide) rfl
    have hK9 := hK
    exact W.iret (v := r_3) hx hb hr (fun t ht hW => ⟨⟨r_3, (), rfl, (by have h9 : f_Words_rest i bk = r_3 := (by subst er_3; exact ((if_pos c_1).trans (rfl))); exact h9.symm), ⟨by rw [ht]; exact hP9, va_K.moved hW.alike hK9, hD9⟩⟩, hS.F ht⟩) hS.2.2 d_Words_rest_17
  · obtain ⟨t_4, hZ4, hT4⟩ := hT.2.2.1
    refine va_gets hx hb hZ4 hS hown (hw _ m_234) (fun _ h => h) d_Words_rest_4 ?_
    refine lv_goto (tgt := 13) hx hb d_Words_rest_7 (by decide) ?_
    refine lv_iload_n hx hb d_Words_rest_13 rfl (lv_at hl 0 rfl) ?_
    have hPc := hP.sub (ws' := []) [] rfl
    have hDc := hD.sub (ws' := []) [] (by decide) rfl
    have hFc := va_free (wc := []) hD hS hA [] rfl
    refine va_calli (va_runS (As := [.ref t_4, .int i]) (rest := []) ⟨hx, hb, hml, hown, hw⟩ (c_Words_at l dC dI cI cL t_4 64 tBR s.heap.size i (by decide)) (va_cwS 2 hw (gd_S m_205 m_206 m_43 m_207) rfl rfl rfl (by decide +kernel) ⟨Nat.le_of_ble_eq_true rfl, Nat.le_of_ble_eq_true rfl⟩) ⟨fun a U g mk q => by obtain ⟨q0, q1, qP, qK, qD, qT⟩ := q; exact ⟨q0, q1, qP, va_K.moved (u := U) (U := U.calling g mk a) (Vm.Alike.refl U.vm) qK, qD, va_T.moved (u := U) (U := U.calling g mk a) (Vm.Alike.refl U.vm) qT⟩, fun U hU hW => ⟨rfl, by rw [hU], by rw [hU]; exact hPc, va_K.moved hW.alike hK, hDc.weaken (fun _ _ _ _ => trivial), by rw [hU]; exact ((hT4.kept (fun q h1 h2 => hS.2.1 q h1 h2)).narrow hFc).moved hW.alike⟩⟩ rfl rfl hl.1 rfl (lv_room (Nat.le_of_ble_eq_true rfl)) d_Words_rest_14 ⟨Nat.le_of_ble_eq_true rfl, Nat.le_of_ble_eq_true rfl⟩) hS (fun q _ h => hFc q h) hFc (fun r_5 u_5 t H1 locs ht hvm hq5 hB hz1 hk1 hS => ?_)
    obtain ⟨hP1, hK1, hD1⟩ := hB
    rw [ht] at hP1
    obtain ⟨hP, hD⟩ := va_join (wr := []) (w1 := []) hP hD [] [] rfl rfl (by decide) (by decide) hk1 hFc hP1 hD1
    generalize H1 = H at hP hS ht ⊢
    have hP : va_P (dC, dI) classes [] H := hP
    have hD : va_D A [] := hD
    have er_5 : f_Words_at 64 tBR i = r_5 := hq5.symm
    have hP9 := hP.sub (ws' := []) [] rfl
    have hD9 := hD.sub (ws' := []) [] (by decide) rfl
    have hK9 := hK
    exact W.iret (v := r_5) hx hb hr (fun t ht hW => ⟨⟨r_5, (), rfl, (by have h9 : f_Words_rest i bk = r_5 := (by subst er_5; exact ((if_neg c_1).trans (rfl))); exact h9.symm), ⟨by rw [ht]; exact hP9, va_K.moved hW.alike hK9, hD9⟩⟩, hS.F ht⟩) hS.2.2 d_Words_rest_17
def f_Words_block (i : Int32) (bk : Bool) : Int32 := let x_1 := (i / 64) - 1; if x_1 < (nI 27) then (if (bI bk) = 0 then (let r_6 := f_Words_at 27 tWB x_1; r_6) else (let r_8 := f_Words_at 27 tBB x_1; r_8)) else (let r_11 := f_Words_at 13 tLB (x_1 - (nI 27)); r_11)
set_option maxHeartbeats 4000000 in
set_option maxRecDepth 100000 in
theorem c_Words_block (l : Launch) (dC : Nat → ClassId) (dI : Nat → Nat → Nat) (cI cL : ClassId)  (sz : Nat)  (i : Int32) (bk : Bool)  : Met l y_Words_block w_Words_block ({ frames := 1, cells := 0, slots := 0, locals := 21 }) (va_Pc [.int i, .int (bI bk)] (fun U => U.heap.size = sz ∧ va_P (dC, dI) classes [] U.heap ∧ va_K (dC, dI) classes [(cI, .int), (cL, .long)] U ∧ va_D (fun _ => True) [] ∧ tb (va_A [] sz) U)) (va_Qi (fun (r : Int32) (u : Unit) => r = f_Words_block i bk) (fun (u : Unit) (t : State) => va_P (dC, dI) classes [] t.heap ∧ va_K (dC, dI) classes [(cI, .int), (cL, .long)] t ∧ va_D (va_A [] sz) []) (va_A [] sz)) 0 0 (va_A [] sz) := by
  refine Met.ofW (cc := b_Words_block) (maxL := 3) (ret := (some .int)) (by decide) rfl ?_
  intro p e s m args below meth c s₁ B hml hv
  obtain ⟨rfl, hsz, hP, hK, hD0, hT⟩ := hv
  have hx := B.exec
  have hb := B.bytes
  have hr := B.returns
  have hts := atoms_spec (ws := w_Words_block) B.pre
  have hw : ∀ w ∈ WA, w.before _ s = true := fun w h => hts w (List.mem_cons_of_mem _ h)
  have hown : s.vm.findClass R_Words = some m.cls := findClass_of_methodNamed B.named
  have hlocks := B.notSynchronized
  subst hsz
  have hD := hD0.self (sz := s.heap.size)
  generalize hAe : va_A [] s.heap.size = A at hD hT ⊢
  have hA : ∀ q : Nat, s.heap.size ≤ q → A q := fun q h => by rw [← hAe]; exact Or.inr h
  have hS : va_S A s.heap s.heap [] := va_S.rf
  have hP : va_P (dC, dI) classes [] s.heap := hP
  have hl := lv_entry ([.int i, .int (bI bk)]) (n := 3) (Nat.le_of_ble_eq_true rfl)
  rw [lg_entry_eq]
  generalize (lg_sl ([.int i, .int (bI bk)]) ++ List.replicate (3 - (lg_sl ([.int i, .int (bI bk)])).length) Slot.unset).toArray = ls at hl ⊢
  have hl : lv_has ls 3 [(0, .int i), (1, .int (bI bk))] := hl
  refine lv_iload_n hx hb d_Words_block_0 rfl (lv_at hl 0 rfl) ?_
  refine lv_bipush (v := 64) hx hb d_Words_block_1 (by decide) ?_
  refine lv_idiv hx hb d_Words_block_3 (by decide) ?_
  refine lv_iconst (v := 1) hx hb d_Words_block_4 (by decide) ?_
  refine lv_isub hx hb d_Words_block_5 ?_
  refine lv_topi (fun x_1 ex_1 => ?_)
  replace ex_1 := ex_1.symm
  refine lv_istore_n (lv' := [(2, .int x_1), (0, .int i), (1, .int (bI bk))]) hx hb d_Words_block_6 rfl hl (by decide) rfl (fun ls hl => ?_)
  refine lv_iload_n hx hb d_Words_block_7 rfl (lv_at hl 0 rfl) ?_
  obtain ⟨t_2, hZ2, hT2⟩ := hT.2.2.2.1
  refine va_gets hx hb hZ2 hS hown (hw _ m_241) (fun _ h => h) d_Words_block_8 ?_
  refine va_tlen (v := nI 27) hx hb hT2 hS rfl d_Words_block_11 ?_
  refine lv_icmp_lt (tgt := 28) hx hb d_Words_block_12 (by decide) (fun c_3 => ?_) (fun c_3 => ?_)
  · refine lv_iload_n hx hb d_Words_block_28 rfl (lv_at hl 2 rfl) ?_
    refine lv_if_eq (tgt := 38) hx hb d_Words_block_29 (by decide) (fun c_4 => ?_) (fun c_4 => ?_)
    · obtain ⟨t_5, hZ5, hT5⟩ := hT.2.2.2.1
      refine va_gets hx hb hZ5 hS hown (hw _ m_241) (fun _ h => h) d_Words_block_38 ?_
      refine lv_iload_n hx hb d_Words_block_41 rfl (lv_at hl 0 rfl) ?_
      have hPc := hP.sub (ws' := []) [] rfl
      have hDc := hD.sub (ws' := []) [] (by decide) rfl
      have hFc := va_free (wc := []) hD hS hA [] rfl
      refine va_calli (va_runS (As := [.ref t_5, .int x_1]) (rest := []) ⟨hx, hb, hml, hown, hw⟩ (c_Words_at l dC dI cI cL t_5 27 tWB s.heap.size x_1 (by decide)) (va_cwS 2 hw (gd_S m_205 m_206 m_43 m_207) rfl rfl rfl (by decide +kernel) ⟨Nat.le_of_ble_eq_true rfl, Nat.le_of_ble_eq_true rfl⟩) ⟨fun a U g mk q => by obtain ⟨q0, q1, qP, qK, qD, qT⟩ := q; exact ⟨q0, q1, qP, va_K.moved (u := U) (U := U.calling g mk a) (Vm.Alike.refl U.vm) qK, qD, va_T.moved (u := U) (U := U.calling g mk a) (Vm.Alike.refl U.vm) qT⟩, fun U hU hW => ⟨rfl, by rw [hU], by rw [hU]; exact hPc, va_K.moved hW.alike hK, hDc.weaken (fun _ _ _ _ => trivial), by rw [hU]; exact ((hT5.kept (fun q h1 h2 => hS.2.1 q h1 h2)).narrow hFc).moved hW.alike⟩⟩ rfl rfl hl.1 rfl (lv_room (Nat.le_of_ble_eq_true rfl)) d_Words_block_42 ⟨Nat.le_of_ble_eq_true rfl, Nat.le_of_ble_eq_true rfl⟩) hS (fun q _ h => hFc q h) hFc (fun r_6 u_6 t H1 locs ht hvm hq6 hB hz1 hk1 hS => ?_)
      obtain ⟨hP1, hK1, hD1⟩ := hB
      rw [ht] at hP1
      obtain ⟨hP, hD⟩ := va_join (wr := []) (w1 := []) hP hD [] [] rfl rfl (by decide) (by decide) hk1 hFc hP1 hD1
      generalize H1 = H at hP hS ht ⊢
      have hP : va_P (dC, dI) classes [] H := hP
      have hD : va_D A [] := hD
      have er_6 : f_Words_at 27 tWB x_1 = r_6 := hq6.symm
      have hP9 := hP.sub (ws' := []) [] rfl
      have hD9 := hD.sub (ws' := []) [] (by decide) rfl
      have hK9 := hK
      exact W.iret (v := r_6) hx hb hr (fun t ht hW => ⟨⟨r_6, (), rfl, (by have h9 : f_Words_block i bk = r_6 := (by subst ex_1 er_6; exact ((if_pos c_3).trans ((if_pos c_4).trans (rfl)))); exact h9.symm), ⟨by rw [ht]; exact hP9, va_K.moved hW.alike hK9, hD9⟩⟩, hS.F ht⟩) hS.2.2 d_Words_block_45
    · obtain ⟨t_7, hZ7, hT7⟩ := hT.2.2.2.2.1
      refine va_gets hx hb hZ7 hS hown (hw _ m_245) (fun _ h => h) d_Words_block_32 ?_
      refine lv_goto (tgt := 41) hx hb d_Words_block_35 (by decide) ?_
      refine lv_iload_n hx hb d_Words_block_41 rfl (lv_at hl 0 rfl) ?_
      have hPc := hP.sub (ws' := []) [] rfl
      have hDc := hD.sub (ws' := []) [] (by decide) rfl
      have hFc := va_free (wc := []) hD hS hA [] rfl
      refine va_calli (va_runS (As := [.ref t_7, .int x_1]) (rest := []) ⟨hx, hb, hml, hown, hw⟩ (c_Words_at l dC dI cI cL t_7 27 tBB s.heap.size x_1 (by decide)) (va_cwS 2 hw (gd_S m_205 m_206 m_43 m_207) rfl rfl rfl (by decide +kernel) ⟨Nat.le_of_ble_eq_true rfl, Nat.le_of_ble_eq_true rfl⟩) ⟨fun a U g mk q => by obtain ⟨q0, q1, qP, qK, qD, qT⟩ := q; exact ⟨q0, q1, qP, va_K.moved (u := U) (U := U.calling g mk a) (Vm.Alike.refl U.vm) qK, qD, va_T.moved (u := U) (U := U.calling g mk a) (Vm.Alike.refl U.vm) qT⟩, fun U hU hW => ⟨rfl, by rw [hU], by rw [hU]; exact hPc, va_K.moved hW.alike hK, hDc.weaken (fun _ _ _ _ => trivial), by rw [hU]; exact ((hT7.kept (fun q h1 h2 => hS.2.1 q h1 h2)).narrow hFc).moved hW.alike⟩⟩ rfl rfl hl.1 rfl (lv_room (Nat.le_of_ble_eq_true rfl)) d_Words_block_42 ⟨Nat.le_of_ble_eq_true rfl, Nat.le_of_ble_eq_true rfl⟩) hS (fun q _ h => hFc q h) hFc (fun r_8 u_8 t H1 locs ht hvm hq8 hB hz1 hk1 hS => ?_)
      obtain ⟨hP1, hK1, hD1⟩ := hB
      rw [ht] at hP1
      obtain ⟨hP, hD⟩ := va_join (wr := []) (w1 := []) hP hD [] [] rfl rfl (by decide) (by decide) hk1 hFc hP1 hD1
      generalize H1 = H at hP hS ht ⊢
      have hP : va_P (dC, dI) classes [] H := hP
      have hD : va_D A [] := hD
      have er_8 : f_Words_at 27 tBB x_1 = r_8 := hq8.symm
      have hP9 := hP.sub (ws' := []) [] rfl
      have hD9 := hD.sub (ws' := []) [] (by decide) rfl
      have hK9 := hK
      exact W.iret (v := r_8) hx hb hr (fun t ht hW => ⟨⟨r_8, (), rfl, (by have h9 : f_Words_block i bk = r_8 := (by subst ex_1 er_8; exact ((if_pos c_3).trans ((if_neg c_4).trans (rfl)))); exact h9.symm), ⟨by rw [ht]; exact hP9, va_K.moved hW.alike hK9, hD9⟩⟩, hS.F ht⟩) hS.2.2 d_Words_block_45
  · obtain ⟨t_9, hZ9, hT9⟩ := hT.2.2.2.2.2
    refine va_gets hx hb hZ9 hS hown (hw _ m_243) (fun _ h => h) d_Words_block_15 ?_
    refine lv_iload_n hx hb d_Words_block_18 rfl (lv_at hl 0 rfl) ?_
    obtain ⟨t_10, hZ10, hT10⟩ := hT.2.2.2.1
    refine va_gets hx hb hZ10 hS hown (hw _ m_241) (fun _ h => h) d_Words_block_19 ?_
    refine va_tlen (v := nI 27) hx hb hT10 hS rfl d_Words_block_22 ?_
    refine lv_isub hx hb d_Words_block_23 ?_
    have hPc := hP.sub (ws' := []) [] rfl
    have hDc := hD.sub (ws' := []) [] (by decide) rfl
    have hFc := va_free (wc := []) hD hS hA [] rfl
    refine va_calli (va_runS (As := [.ref t_9, .int (x_1 - (nI 27))]) (rest := []) ⟨hx, hb, hml, hown, hw⟩ (c_Words_at l dC dI cI cL t_9 13 tLB s.heap.size (x_1 - (nI 27)) (by decide)) (va_cwS 2 hw (gd_S m_205 m_206 m_43 m_207) rfl rfl rfl (by decide +kernel) ⟨Nat.le_of_ble_eq_true rfl, Nat.le_of_ble_eq_true rfl⟩) ⟨fun a U g mk q => by obtain ⟨q0, q1, qP, qK, qD, qT⟩ := q; exact ⟨q0, q1, qP, va_K.moved (u := U) (U := U.calling g mk a) (Vm.Alike.refl U.vm) qK, qD, va_T.moved (u := U) (U := U.calling g mk a) (Vm.Alike.refl U.vm) qT⟩, fun U hU hW => ⟨rfl, by rw [hU], by rw [hU]; exact hPc, va_K.moved hW.alike hK, hDc.weaken (fun _ _ _ _ => trivial), by rw [hU]; exact ((hT9.kept (fun q h1 h2 => hS.2.1 q h1 h2)).narrow hFc).moved hW.alike⟩⟩ rfl rfl hl.1 rfl (lv_room (Nat.le_of_ble_eq_true rfl)) d_Words_block_24 ⟨Nat.le_of_ble_eq_true rfl, Nat.le_of_ble_eq_true rfl⟩) hS (fun q _ h => hFc q h) hFc (fun r_11 u_11 t H1 locs ht hvm hq11 hB hz1 hk1 hS => ?_)
    obtain ⟨hP1, hK1, hD1⟩ := hB
    rw [ht] at hP1
    obtain ⟨hP, hD⟩ := va_join (wr := []) (w1 := []) hP hD [] [] rfl rfl (by decide) (by decide) hk1 hFc hP1 hD1
    generalize H1 = H at hP hS ht ⊢
    have hP : va_P (dC, dI) classes [] H := hP
    have hD : va_D A [] := hD
    have er_11 : f_Words_at 13 tLB (x_1 - (nI 27)) = r_11 := hq11.symm
    have hP9 := hP.sub (ws' := []) [] rfl
    have hD9 := hD.sub (ws' := []) [] (by decide) rfl
    have hK9 := hK
    exact W.iret (v := r_11) hx hb hr (fun t ht hW => ⟨⟨r_11, (), rfl, (by have h9 : f_Words_block i bk = r_11 := (by subst ex_1 er_11; exact ((if_neg c_3).trans (rfl))); exact h9.symm), ⟨by rw [ht]; exact hP9, va_K.moved hW.alike hK9, hD9⟩⟩, hS.F ht⟩) hS.2.2 d_Words_block_27
def f_Words_length (w : Int32) : Int32 := let r_1 := f_Integer_numberOfLeadingZeros w; 31 - r_1
set_option maxHeartbeats 4000000 in
set_option maxRecDepth 100000 in
theorem c_Words_length (l : Launch) (dC : Nat → ClassId) (dI : Nat → Nat → Nat) (cI cL : ClassId)  (sz : Nat)  (w : Int32)  : Met l y_Words_length w_Words_length ({ frames := 1, cells := 0, slots := 0, locals := 21 }) (va_Pc [.int w] (fun U => U.heap.size = sz ∧ va_P (dC, dI) classes [] U.heap ∧ va_K (dC, dI) classes [(cI, .int), (cL, .long)] U ∧ va_D (fun _ => True) [])) (va_Qi (fun (r : Int32) (u : Unit) => r = f_Words_length w) (fun (u : Unit) (t : State) => va_P (dC, dI) classes [] t.heap ∧ va_K (dC, dI) classes [(cI, .int), (cL, .long)] t ∧ va_D (va_A [] sz) []) (va_A [] sz)) 0 0 (va_A [] sz) := by
  refine Met.ofW (cc := b_Words_length) (maxL := 1) (ret := (some .int)) (by decide) rfl ?_
  intro p e s m args below meth c s₁ B hml hv
  obtain ⟨rfl, hsz, hP, hK, hD0⟩ := hv
  have hx := B.exec
  have hb := B.bytes
  have hr := B.returns
  have hts := atoms_spec (ws := w_Words_length) B.pre
  have hw : ∀ w ∈ WA, w.before _ s = true := fun w h => hts w (List.mem_cons_of_mem _ h)
  have hown : s.vm.findClass R_Words = some m.cls := findClass_of_methodNamed B.named
  have hlocks := B.notSynchronized
  subst hsz
  have hD := hD0.self (sz := s.heap.size)
  generalize hAe : va_A [] s.heap.size = A at hD ⊢
  have hA : ∀ q : Nat, s.heap.size ≤ q → A q := fun q h => by rw [← hAe]; exact Or.inr h
  have hS : va_S A s.heap s.heap [] := va_S.rf
  have hP : va_P (dC, dI) classes [] s.heap := hP
  have hl := lv_entry ([.int w]) (n := 1) (Nat.le_of_ble_eq_true rfl)
  rw [lg_entry_eq]
  generalize (lg_sl ([.int w]) ++ List.replicate (1 - (lg_sl ([.int w])).length) Slot.unset).toArray = ls at hl ⊢
  have hl : lv_has ls 1 [(0, .int w)] := hl
  refine lv_bipush (v := 31) hx hb d_Words_length_0 (by decide) ?_
  refine lv_iload_n hx hb d_Words_length_2 rfl (lv_at hl 0 rfl) ?_
  have hPc := hP.sub (ws' := []) [] rfl
  have hDc := hD.sub (ws' := []) [] (by decide) rfl
  have hFc := va_free (wc := []) hD hS hA [] rfl
  refine va_calli (va_runS (As := [.int w]) (rest := [.int 31]) ⟨hx, hb, hml, hown, hw⟩ (c_Integer_numberOfLeadingZeros l dC dI cI cL s.heap.size w) (va_cwS 1 hw (gd_S m_215 m_216 m_44 m_217) rfl rfl rfl (by decide +kernel) ⟨Nat.le_of_ble_eq_true rfl, Nat.le_of_ble_eq_true rfl⟩) ⟨fun a U g mk q => by obtain ⟨q0, q1, qP, qK, qD⟩ := q; exact ⟨q0, q1, qP, va_K.moved (u := U) (U := U.calling g mk a) (Vm.Alike.refl U.vm) qK, qD⟩, fun U hU hW => ⟨rfl, by rw [hU], by rw [hU]; exact hPc, va_K.moved hW.alike hK, hDc.weaken (fun _ _ _ _ => trivial)⟩⟩ rfl rfl hl.1 rfl (lv_room (Nat.le_of_ble_eq_true rfl)) d_Words_length_3 ⟨Nat.le_of_ble_eq_true rfl, Nat.le_of_ble_eq_true rfl⟩) hS (fun q _ h => hFc q h) hFc (fun r_1 u_1 t H1 locs ht hvm hq1 hB hz1 hk1 hS => ?_)
  obtain ⟨hP1, hK1, hD1⟩ := hB
  rw [ht] at hP1
  obtain ⟨hP, hD⟩ := va_join (wr := []) (w1 := []) hP hD [] [] rfl rfl (by decide) (by decide) hk1 hFc hP1 hD1
  generalize H1 = H at hP hS ht ⊢
  have hP : va_P (dC, dI) classes [] H := hP
  have hD : va_D A [] := hD
  have er_1 : f_Integer_numberOfLeadingZeros w = r_1 := hq1.symm
  refine lv_isub hx hb d_Words_length_6 ?_
  have hP9 := hP.sub (ws' := []) [] rfl
  have hD9 := hD.sub (ws' := []) [] (by decide) rfl
  have hK9 := hK
  exact W.iret (v := 31 - r_1) hx hb hr (fun t ht hW => ⟨⟨31 - r_1, (), rfl, (by have h9 : f_Words_length w = 31 - r_1 := (by subst er_1; exact (rfl)); exact h9.symm), ⟨by rw [ht]; exact hP9, va_K.moved hW.alike hK9, hD9⟩⟩, hS.F ht⟩) hS.2.2 d_Words_length_7
