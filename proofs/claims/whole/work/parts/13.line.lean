def f_Line_whiten (wd : Nat) (pf : Nat → Int64) (ch : (Nat → Int32) × Int32) : (Nat → Int64) × ((Nat → Int32) × Int32) := let u_1 := f_Arrays_fill ((wd + 63) / 64) pf 0; (u_1, (ch.1, 0))
set_option maxHeartbeats 4000000 in
set_option maxRecDepth 100000 in
theorem c_Line_whiten (l : Launch) (dC : Nat → ClassId) (dI : Nat → Nat → Nat) (cI cL : ClassId) (o : Nat) (pa : Nat) (ca : Nat) (wd : Nat) (sz : Nat) (pf : Nat → Int64) (ch : (Nat → Int32) × Int32)  (hwd : wd ≤ 10000) : Met l y_Line_whiten w_Line_whiten ({ frames := 1, cells := 0, slots := 0, locals := 24 }) (va_Pc [.ref o] (fun U => U.heap.size = sz ∧ va_P (dC, dI) classes [(o, .inr (2, [.int (nI wd), .ref pa, .ref ca, .int ch.2])), (pa, .inl (cL, ((wd + 63) / 64), .inr (.inl pf))), (ca, .inl (cI, wd, .inl ch.1))] U.heap ∧ va_K (dC, dI) classes [(cI, .int), (cL, .long)] U ∧ va_D (fun _ => True) [(o, .inr (2, [.int (nI wd), .ref pa, .ref ca, .int ch.2])), (pa, .inl (cL, ((wd + 63) / 64), .inr (.inl pf))), (ca, .inl (cI, wd, .inl ch.1))])) (va_Qv (fun (u : (Nat → Int64) × ((Nat → Int32) × Int32)) => u = f_Line_whiten wd pf ch) (fun (u : (Nat → Int64) × ((Nat → Int32) × Int32)) (t : State) => va_P (dC, dI) classes [(o, .inr (2, [.int (nI wd), .ref pa, .ref ca, .int u.2.2])), (pa, .inl (cL, ((wd + 63) / 64), .inr (.inl u.1))), (ca, .inl (cI, wd, .inl u.2.1))] t.heap ∧ va_K (dC, dI) classes [(cI, .int), (cL, .long)] t ∧ va_D (va_A [(o, .inr (2, [.int (nI wd), .ref pa, .ref ca, .int ch.2])), (pa, .inl (cL, ((wd + 63) / 64), .inr (.inl pf))), (ca, .inl (cI, wd, .inl ch.1))] sz) [(o, .inr (2, [.int (nI wd), .ref pa, .ref ca, .int u.2.2])), (pa, .inl (cL, ((wd + 63) / 64), .inr (.inl u.1))), (ca, .inl (cI, wd, .inl u.2.1))]) (va_A [(o, .inr (2, [.int (nI wd), .ref pa, .ref ca, .int ch.2])), (pa, .inl (cL, ((wd + 63) / 64), .inr (.inl pf))), (ca, .inl (cI, wd, .inl ch.1))] sz)) 0 0 (va_A [(o, .inr (2, [.int (nI wd), .ref pa, .ref ca, .int ch.2])), (pa, .inl (cL, ((wd + 63) / 64), .inr (.inl pf))), (ca, .inl (cI, wd, .inl ch.1))] sz) := by
  refine Met.ofW (cc := b_Line_whiten) (maxL := 1) (ret := none) (by decide) rfl ?_
  intro p e s m args below meth c s₁ B hml hv
  obtain ⟨rfl, hsz, hP, hK, hD0⟩ := hv
  have hx := B.exec
  have hb := B.bytes
  have hr := B.returns
  have hts := atoms_spec (ws := w_Line_whiten) B.pre
  have hw : ∀ w ∈ WA, w.before _ s = true := fun w h => hts w (List.mem_cons_of_mem _ h)
  have hown : s.vm.findClass R_Line = some m.cls := findClass_of_methodNamed B.named
  have hlocks := B.notSynchronized
  subst hsz
  have hD := hD0.self (sz := s.heap.size)
  generalize hAe : va_A [(o, .inr (2, [.int (nI wd), .ref pa, .ref ca, .int ch.2])), (pa, .inl (cL, ((wd + 63) / 64), .inr (.inl pf))), (ca, .inl (cI, wd, .inl ch.1))] s.heap.size = A at hD ⊢
  have hA : ∀ q : Nat, s.heap.size ≤ q → A q := fun q h => by rw [← hAe]; exact Or.inr h
  have hS : va_S A s.heap s.heap [] := va_S.rf
  have hP : va_P (dC, dI) classes [(o, .inr (2, [.int (nI wd), .ref pa, .ref ca, .int ch.2])), (pa, .inl (cL, ((wd + 63) / 64), .inr (.inl pf))), (ca, .inl (cI, wd, .inl ch.1))] s.heap := hP
  have hl := lv_entry ([.ref o]) (n := 1) (Nat.le_of_ble_eq_true rfl)
  rw [lg_entry_eq]
  generalize (lg_sl ([.ref o]) ++ List.replicate (1 - (lg_sl ([.ref o])).length) Slot.unset).toArray = ls at hl ⊢
  have hl : lv_has ls 1 [(0, .ref o)] := hl
  refine lv_aload_n hx hb d_Line_whiten_0 rfl (lv_at hl 0 rfl) ?_
  refine va_get (D := (dC, dI)) (ci := 2) (v := .ref pa) (C := R_Line) (T := F_Line) (N := 4) hx hb hw i_Line hown hK hP 0 rfl rfl 1 (by decide) (hw _ m_98) (fun _ h9 => h9) rfl d_Line_whiten_1 ?_
  refine lv_lconst (v := 0) hx hb d_Line_whiten_4 (by decide) ?_
  have hPc := hP.sub (ws' := [(pa, .inl (cL, ((wd + 63) / 64), .inr (.inl pf)))]) [1] rfl
  have hDc := hD.sub (ws' := [(pa, .inl (cL, ((wd + 63) / 64), .inr (.inl pf)))]) [1] (by decide) rfl
  have hFc := va_free (wc := [(pa, .inl (cL, ((wd + 63) / 64), .inr (.inl pf)))]) hD hS hA [1] rfl
  refine va_callv (va_runS (As := [.ref pa, .long 0]) (rest := []) ⟨hx, hb, hml, hown, hw⟩ (c_Arrays_fill l dC dI cI cL pa ((wd + 63) / 64) s.heap.size pf 0 (by omega)) (va_cwS 2 hw (gd_S m_331 m_332 m_47 m_333) rfl rfl rfl (by decide +kernel) ⟨Nat.le_of_ble_eq_true rfl, Nat.le_of_ble_eq_true rfl⟩) ⟨fun a U g mk q => by obtain ⟨q0, q1, qP, qK, qD⟩ := q; exact ⟨q0, q1, qP, va_K.moved (u := U) (U := U.calling g mk a) (Vm.Alike.refl U.vm) qK, qD⟩, fun U hU hW => ⟨rfl, by rw [hU], by rw [hU]; exact hPc, va_K.moved hW.alike hK, hDc.weaken (fun _ _ _ _ => trivial)⟩⟩ rfl rfl hl.1 rfl (lv_room (Nat.le_of_ble_eq_true rfl)) d_Line_whiten_5 ⟨Nat.le_of_ble_eq_true rfl, Nat.le_of_ble_eq_true rfl⟩) hS (fun q _ h => hFc q h) hFc (fun u_1 t H1 locs ht hvm hq1 hB hz1 hk1 hS => ?_)
  obtain ⟨hP1, hK1, hD1⟩ := hB
  rw [ht] at hP1
  obtain ⟨hP, hD⟩ := va_join (wr := [(o, .inr (2, [.int (nI wd), .ref pa, .ref ca, .int ch.2])), (ca, .inl (cI, wd, .inl ch.1))]) (w1 := [(pa, .inl (cL, ((wd + 63) / 64), .inr (.inl u_1)))]) hP hD [1] [0, 2] rfl rfl (by decide) (by decide) hk1 hFc hP1 hD1
  generalize H1 = H at hP hS ht ⊢
  have hP : va_P (dC, dI) classes [(o, .inr (2, [.int (nI wd), .ref pa, .ref ca, .int ch.2])), (ca, .inl (cI, wd, .inl ch.1)), (pa, .inl (cL, ((wd + 63) / 64), .inr (.inl u_1)))] H := hP
  have hD : va_D A [(o, .inr (2, [.int (nI wd), .ref pa, .ref ca, .int ch.2])), (ca, .inl (cI, wd, .inl ch.1)), (pa, .inl (cL, ((wd + 63) / 64), .inr (.inl u_1)))] := hD
  have eu_1 : f_Arrays_fill ((wd + 63) / 64) pf 0 = u_1 := hq1.symm
  refine lv_aload_n hx hb d_Line_whiten_8 rfl (lv_at hl 0 rfl) ?_
  refine lv_iconst (v := 0) hx hb d_Line_whiten_9 (by decide) ?_
  refine va_put (D := (dC, dI)) (ci := 2) (v := .int 0) (ty := .int) (C := R_Line) (T := F_Line) (N := 4) hx hb hw i_Line t_Line t_Line_ok n_Line hown hK hP hD hS 0 rfl rfl 3 (by decide) (hw _ m_100) (fun _ h9 => h9) rfl (by decide +kernel) rfl rfl (Nat.le_of_ble_eq_true rfl) d_Line_whiten_10 (fun H locs hP hD hS => ?_)
  have hP : va_P (dC, dI) classes [(o, .inr (2, [.int (nI wd), .ref pa, .ref ca, .int 0])), (ca, .inl (cI, wd, .inl ch.1)), (pa, .inl (cL, ((wd + 63) / 64), .inr (.inl u_1)))] H := hP
  have hD : va_D A [(o, .inr (2, [.int (nI wd), .ref pa, .ref ca, .int 0])), (ca, .inl (cI, wd, .inl ch.1)), (pa, .inl (cL, ((wd + 63) / 64), .inr (.inl u_1)))] := hD
  have hP9 := hP.sub (ws' := [(o, .inr (2, [.int (nI wd), .ref pa, .ref ca, .int 0])), (pa, .inl (cL, ((wd + 63) / 64), .inr (.inl u_1))), (ca, .inl (cI, wd, .inl ch.1))]) [0, 2, 1] rfl
  have hD9 := hD.sub (ws' := [(o, .inr (2, [.int (nI wd), .ref pa, .ref ca, .int 0])), (pa, .inl (cL, ((wd + 63) / 64), .inr (.inl u_1))), (ca, .inl (cI, wd, .inl ch.1))]) [0, 2, 1] (by decide) rfl
  have hK9 := hK
  exact W.vret hx hb hr (fun t ht hW => ⟨⟨(u_1, (ch.1, 0)), rfl, (by have h9 : f_Line_whiten wd pf ch = (u_1, (ch.1, 0)) := (by subst eu_1; exact (rfl)); exact h9.symm), ⟨by rw [ht]; exact hP9, va_K.moved hW.alike hK9, hD9⟩⟩, hS.F ht⟩) hS.2.2 d_Line_whiten_13
def f_Line_part (wd : Nat) (pf : Nat → Int64) (k : Int32) : Int64 := if k < 0 then (0) else (if k < (nI ((wd + 63) / 64)) then (pf k.toNatClampNeg) else (0))
set_option maxHeartbeats 4000000 in
set_option maxRecDepth 100000 in
theorem c_Line_part (l : Launch) (dC : Nat → ClassId) (dI : Nat → Nat → Nat) (cI cL : ClassId) (o : Nat) (pa : Nat) (ca : Nat) (wd : Nat) (pf : Nat → Int64) (ch : (Nat → Int32) × Int32) (sz : Nat)  (k : Int32) (hwd : wd ≤ 10000) : Met l y_Line_part w_Line_part ({ frames := 0, cells := 0, slots := 0, locals := 0 }) (va_Pc [.ref o, .int k] (fun U => U.heap.size = sz ∧ va_P (dC, dI) classes [(o, .inr (2, [.int (nI wd), .ref pa, .ref ca, .int ch.2])), (pa, .inl (cL, ((wd + 63) / 64), .inr (.inl pf))), (ca, .inl (cI, wd, .inl ch.1))] U.heap ∧ va_K (dC, dI) classes [(cI, .int), (cL, .long)] U ∧ va_D (fun _ => True) [(o, .inr (2, [.int (nI wd), .ref pa, .ref ca, .int ch.2])), (pa, .inl (cL, ((wd + 63) / 64), .inr (.inl pf))), (ca, .inl (cI, wd, .inl ch.1))])) (va_Ql (fun (r : Int64) (u : Unit) => r = f_Line_part wd pf k) (fun (u : Unit) (t : State) => va_P (dC, dI) classes [(o, .inr (2, [.int (nI wd), .ref pa, .ref ca, .int ch.2])), (pa, .inl (cL, ((wd + 63) / 64), .inr (.inl pf))), (ca, .inl (cI, wd, .inl ch.1))] t.heap ∧ va_K (dC, dI) classes [(cI, .int), (cL, .long)] t ∧ va_D (va_A [(o, .inr (2, [.int (nI wd), .ref pa, .ref ca, .int ch.2])), (pa, .inl (cL, ((wd + 63) / 64), .inr (.inl pf))), (ca, .inl (cI, wd, .inl ch.1))] sz) [(o, .inr (2, [.int (nI wd), .ref pa, .ref ca, .int ch.2])), (pa, .inl (cL, ((wd + 63) / 64), .inr (.inl pf))), (ca, .inl (cI, wd, .inl ch.1))]) (va_A [(o, .inr (2, [.int (nI wd), .ref pa, .ref ca, .int ch.2])), (pa, .inl (cL, ((wd + 63) / 64), .inr (.inl pf))), (ca, .inl (cI, wd, .inl ch.1))] sz)) 0 0 (va_A [(o, .inr (2, [.int (nI wd), .ref pa, .ref ca, .int ch.2])), (pa, .inl (cL, ((wd + 63) / 64), .inr (.inl pf))), (ca, .inl (cI, wd, .inl ch.1))] sz) := by
  refine Met.ofW (cc := b_Line_part) (maxL := 2) (ret := (some .long)) (by decide) rfl ?_
  intro p e s m args below meth c s₁ B hml hv
  obtain ⟨rfl, hsz, hP, hK, hD0⟩ := hv
  have hx := B.exec
  have hb := B.bytes
  have hr := B.returns
  have hts := atoms_spec (ws := w_Line_part) B.pre
  have hw : ∀ w ∈ WA, w.before _ s = true := fun w h => hts w (List.mem_cons_of_mem _ h)
  have hown : s.vm.findClass R_Line = some m.cls := findClass_of_methodNamed B.named
  have hlocks := B.notSynchronized
  subst hsz
  have hD := hD0.self (sz := s.heap.size)
  generalize hAe : va_A [(o, .inr (2, [.int (nI wd), .ref pa, .ref ca, .int ch.2])), (pa, .inl (cL, ((wd + 63) / 64), .inr (.inl pf))), (ca, .inl (cI, wd, .inl ch.1))] s.heap.size = A at hD ⊢
  have hA : ∀ q : Nat, s.heap.size ≤ q → A q := fun q h => by rw [← hAe]; exact Or.inr h
  have hS : va_S A s.heap s.heap [] := va_S.rf
  have hP : va_P (dC, dI) classes [(o, .inr (2, [.int (nI wd), .ref pa, .ref ca, .int ch.2])), (pa, .inl (cL, ((wd + 63) / 64), .inr (.inl pf))), (ca, .inl (cI, wd, .inl ch.1))] s.heap := hP
  have hl := lv_entry ([.ref o, .int k]) (n := 2) (Nat.le_of_ble_eq_true rfl)
  rw [lg_entry_eq]
  generalize (lg_sl ([.ref o, .int k]) ++ List.replicate (2 - (lg_sl ([.ref o, .int k])).length) Slot.unset).toArray = ls at hl ⊢
  have hl : lv_has ls 2 [(0, .ref o), (1, .int k)] := hl
  refine lv_iload_n hx hb d_Line_part_0 rfl (lv_at hl 1 rfl) ?_
  refine lv_if_lt (tgt := 13) hx hb d_Line_part_1 (by decide) (fun c_1 => ?_) (fun c_1 => ?_)
  · refine lv_lconst (v := 0) hx hb d_Line_part_13 (by decide) ?_
    refine lv_goto (tgt := 23) hx hb d_Line_part_14 (by decide) ?_
    have hP9 := hP.sub (ws' := [(o, .inr (2, [.int (nI wd), .ref pa, .ref ca, .int ch.2])), (pa, .inl (cL, ((wd + 63) / 64), .inr (.inl pf))), (ca, .inl (cI, wd, .inl ch.1))]) [0, 1, 2] rfl
    have hD9 := hD.sub (ws' := [(o, .inr (2, [.int (nI wd), .ref pa, .ref ca, .int ch.2])), (pa, .inl (cL, ((wd + 63) / 64), .inr (.inl pf))), (ca, .inl (cI, wd, .inl ch.1))]) [0, 1, 2] (by decide) rfl
    have hK9 := hK
    exact W.lret (v := 0) hx hb hr (fun t ht hW => ⟨⟨0, (), rfl, (by have h9 : f_Line_part wd pf k = 0 := (by exact ((if_pos c_1).trans (rfl))); exact h9.symm), ⟨by rw [ht]; exact hP9, va_K.moved hW.alike hK9, hD9⟩⟩, hS.F ht⟩) hS.2.2 d_Line_part_23
  · refine lv_iload_n hx hb d_Line_part_4 rfl (lv_at hl 1 rfl) ?_
    refine lv_aload_n hx hb d_Line_part_5 rfl (lv_at hl 0 rfl) ?_
    refine va_get (D := (dC, dI)) (ci := 2) (v := .ref pa) (C := R_Line) (T := F_Line) (N := 4) hx hb hw i_Line hown hK hP 0 rfl rfl 1 (by decide) (hw _ m_98) (fun _ h9 => h9) rfl d_Line_part_6 ?_
    refine va_alen (v := nI ((wd + 63) / 64)) hx hb hK hP 1 1 rfl rfl rfl d_Line_part_9 ?_
    refine lv_icmp_lt (tgt := 17) hx hb d_Line_part_10 (by decide) (fun c_2 => ?_) (fun c_2 => ?_)
    · refine lv_aload_n hx hb d_Line_part_17 rfl (lv_at hl 0 rfl) ?_
      refine va_get (D := (dC, dI)) (ci := 2) (v := .ref pa) (C := R_Line) (T := F_Line) (N := 4) hx hb hw i_Line hown hK hP 0 rfl rfl 1 (by decide) (hw _ m_98) (fun _ h9 => h9) rfl d_Line_part_18 ?_
      refine lv_iload_n hx hb d_Line_part_21 rfl (lv_at hl 1 rfl) ?_
      refine va_lald hx hb hK hP 1 1 rfl rfl (ix_a (by omega) c_1 c_2) d_Line_part_22 ?_
      have hP9 := hP.sub (ws' := [(o, .inr (2, [.int (nI wd), .ref pa, .ref ca, .int ch.2])), (pa, .inl (cL, ((wd + 63) / 64), .inr (.inl pf))), (ca, .inl (cI, wd, .inl ch.1))]) [0, 1, 2] rfl
      have hD9 := hD.sub (ws' := [(o, .inr (2, [.int (nI wd), .ref pa, .ref ca, .int ch.2])), (pa, .inl (cL, ((wd + 63) / 64), .inr (.inl pf))), (ca, .inl (cI, wd, .inl ch.1))]) [0, 1, 2] (by decide) rfl
      have hK9 := hK
      exact W.lret (v := pf k.toNatClampNeg) hx hb hr (fun t ht hW => ⟨⟨pf k.toNatClampNeg, (), rfl, (by have h9 : f_Line_part wd pf k = pf k.toNatClampNeg := (by exact ((if_neg c_1).trans ((if_pos c_2).trans (rfl)))); exact h9.symm), ⟨by rw [ht]; exact hP9, va_K.moved hW.alike hK9, hD9⟩⟩, hS.F ht⟩) hS.2.2 d_Line_part_23
    · refine lv_lconst (v := 0) hx hb d_Line_part_13 (by decide) ?_
      refine lv_goto (tgt := 23) hx hb d_Line_part_14 (by decide) ?_
      have hP9 := hP.sub (ws' := [(o, .inr (2, [.int (nI wd), .ref pa, .ref ca, .int ch.2])), (pa, .inl (cL, ((wd + 63) / 64), .inr (.inl pf))), (ca, .inl (cI, wd, .inl ch.1))]) [0, 1, 2] rfl
      have hD9 := hD.sub (ws' := [(o, .inr (2, [.int (nI wd), .ref pa, .ref ca, .int ch.2])), (pa, .inl (cL, ((wd + 63) / 64), .inr (.inl pf))), (ca, .inl (cI, wd, .inl ch.1))]) [0, 1, 2] (by decide) rfl
      have hK9 := hK
      exact W.lret (v := 0) hx hb hr (fun t ht hW => ⟨⟨0, (), rfl, (by have h9 : f_Line_part wd pf k = 0 := (by exact ((if_neg c_1).trans ((if_neg c_2).trans (rfl)))); exact h9.symm), ⟨by rw [ht]; exact hP9, va_K.moved hW.alike hK9, hD9⟩⟩, hS.F ht⟩) hS.2.2 d_Line_part_23
def l_Line_fill_24 (wd : Nat) (pf : Nat → Int64) (fr : Int32) (to : Int32) (bk : Bool) : Nat → (Nat → Int64) → Int32 → (Nat → Int64)
  | 0, _, _ => default
  | n24 + 1, g, k => if (nI ((wd + 63) / 64)) ≤ k then (g) else (if ((to - 1) >>> ((6 : Int32) &&& 31)) < k then (g) else (let x_7 := if (fr - (64 * k)) < 0 then 0 else (fr - (64 * k)); let x_8 := if 63 < ((to - 1) - (64 * k)) then 63 else ((to - 1) - (64 * k)); let x_9 := ((((-1) : Int64).toUInt64 >>> (x_7.toInt64.toUInt64 &&& Int64.toUInt64 63)).toInt64) &&& (((-1) : Int64) <<< ((63 - x_8).toInt64 &&& 63)); if (bI bk) = 0 then (let x_11 := (g k.toNatClampNeg) &&& (x_9 ^^^ (-1)); let g_12 := vp_updL g k.toNatClampNeg x_11; let x_13 := k + 1; l_Line_fill_24 wd pf fr to bk n24 g_12 x_13) else (let x_14 := (g k.toNatClampNeg) ||| x_9; let g_15 := vp_updL g k.toNatClampNeg x_14; let x_16 := k + 1; l_Line_fill_24 wd pf fr to bk n24 g_15 x_16)))
def f_Line_fill (wd : Nat) (pf : Nat → Int64) (fr : Int32) (to : Int32) (bk : Bool) : (Nat → Int64) := if fr < 0 then (pf) else (if to ≤ fr then (pf) else (if to ≤ (nI wd) then (let x_4 := fr >>> ((6 : Int32) &&& 31); l_Line_fill_24 wd pf fr to bk (((nI ((wd + 63) / 64)).toInt - Int32.toInt x_4).toNat + 1) pf x_4) else (pf)))
set_option maxHeartbeats 4000000 in
set_option maxRecDepth 100000 in
theorem c_Line_fill (l : Launch) (dC : Nat → ClassId) (dI : Nat → Nat → Nat) (cI cL : ClassId) (o : Nat) (pa : Nat) (ca : Nat) (wd : Nat) (ch : (Nat → Int32) × Int32) (sz : Nat) (pf : Nat → Int64) (fr : Int32) (to : Int32) (bk : Bool) (hwd : wd ≤ 10000) : Met l y_Line_fill w_Line_fill ({ frames := 1, cells := 0, slots := 0, locals := 21 }) (va_Pc [.ref o, .int fr, .int to, .int (bI bk)] (fun U => U.heap.size = sz ∧ va_P (dC, dI) classes [(o, .inr (2, [.int (nI wd), .ref pa, .ref ca, .int ch.2])), (pa, .inl (cL, ((wd + 63) / 64), .inr (.inl pf))), (ca, .inl (cI, wd, .inl ch.1))] U.heap ∧ va_K (dC, dI) classes [(cI, .int), (cL, .long)] U ∧ va_D (fun _ => True) [(o, .inr (2, [.int (nI wd), .ref pa, .ref ca, .int ch.2])), (pa, .inl (cL, ((wd + 63) / 64), .inr (.inl pf))), (ca, .inl (cI, wd, .inl ch.1))])) (va_Qv (fun (u : (Nat → Int64)) => u = f_Line_fill wd pf fr to bk) (fun (u : (Nat → Int64)) (t : State) => va_P (dC, dI) classes [(o, .inr (2, [.int (nI wd), .ref pa, .ref ca, .int ch.2])), (pa, .inl (cL, ((wd + 63) / 64), .inr (.inl u))), (ca, .inl (cI, wd, .inl ch.1))] t.heap ∧ va_K (dC, dI) classes [(cI, .int), (cL, .long)] t ∧ va_D (va_A [(o, .inr (2, [.int (nI wd), .ref pa, .ref ca, .int ch.2])), (pa, .inl (cL, ((wd + 63) / 64), .inr (.inl pf))), (ca, .inl (cI, wd, .inl ch.1))] sz) [(o, .inr (2, [.int (nI wd), .ref pa, .ref ca, .int ch.2])), (pa, .inl (cL, ((wd + 63) / 64), .inr (.inl u))), (ca, .inl (cI, wd, .inl ch.1))]) (va_A [(o, .inr (2, [.int (nI wd), .ref pa, .ref ca, .int ch.2])), (pa, .inl (cL, ((wd + 63) / 64), .inr (.inl pf))), (ca, .inl (cI, wd, .inl ch.1))] sz)) 0 0 (va_A [(o, .inr (2, [.int (nI wd), .ref pa, .ref ca, .int ch.2])), (pa, .inl (cL, ((wd + 63) / 64), .inr (.inl pf))), (ca, .inl (cI, wd, .inl ch.1))] sz) := by
  refine Met.ofW (cc := b_Line_fill) (maxL := 9) (ret := none) (by decide) rfl ?_
  intro p e s m args below meth c s₁ B hml hv
  obtain ⟨rfl, hsz, hP, hK, hD0⟩ := hv
  have hx := B.exec
  have hb := B.bytes
  have hr := B.returns
  have hts := atoms_spec (ws := w_Line_fill) B.pre
  have hw : ∀ w ∈ WA, w.before _ s = true := fun w h => hts w (List.mem_cons_of_mem _ h)
  have hown : s.vm.findClass R_Line = some m.cls := findClass_of_methodNamed B.named
  have hlocks := B.notSynchronized
  subst hsz
  have hD := hD0.self (sz := s.heap.size)
  generalize hAe : va_A [(o, .inr (2, [.int (nI wd), .ref pa, .ref ca, .int ch.2])), (pa, .inl (cL, ((wd + 63) / 64), .inr (.inl pf))), (ca, .inl (cI, wd, .inl ch.1))] s.heap.size = A at hD ⊢
  have hA : ∀ q : Nat, s.heap.size ≤ q → A q := fun q h => by rw [← hAe]; exact Or.inr h
  have hS : va_S A s.heap s.heap [] := va_S.rf
  have hP : va_P (dC, dI) classes [(o, .inr (2, [.int (nI wd), .ref pa, .ref ca, .int ch.2])), (pa, .inl (cL, ((wd + 63) / 64), .inr (.inl pf))), (ca, .inl (cI, wd, .inl ch.1))] s.heap := hP
  have hl := lv_entry ([.ref o, .int fr, .int to, .int (bI bk)]) (n := 9) (Nat.le_of_ble_eq_true rfl)
  rw [lg_entry_eq]
  generalize (lg_sl ([.ref o, .int fr, .int to, .int (bI bk)]) ++ List.replicate (9 - (lg_sl ([.ref o, .int fr, .int to, .int (bI bk)])).length) Slot.unset).toArray = ls at hl ⊢
  have hl : lv_has ls 9 [(0, .ref o), (1, .int fr), (2, .int to), (3, .int (bI bk))] := hl
  refine lv_iload_n hx hb d_Line_fill_0 rfl (lv_at hl 1 rfl) ?_
  refine lv_if_lt (tgt := 17) hx hb d_Line_fill_1 (by decide) (fun c_1 => ?_) (fun c_1 => ?_)
  · have hP9 := hP.sub (ws' := [(o, .inr (2, [.int (nI wd), .ref pa, .ref ca, .int ch.2])), (pa, .inl (cL, ((wd + 63) / 64), .inr (.inl pf))), (ca, .inl (cI, wd, .inl ch.1))]) [0, 1, 2] rfl
    have hD9 := hD.sub (ws' := [(o, .inr (2, [.int (nI wd), .ref pa, .ref ca, .int ch.2])), (pa, .inl (cL, ((wd + 63) / 64), .inr (.inl pf))), (ca, .inl (cI, wd, .inl ch.1))]) [0, 1, 2] (by decide) rfl
    have hK9 := hK
    exact W.vret hx hb hr (fun t ht hW => ⟨⟨pf, rfl, (by have h9 : f_Line_fill wd pf fr to bk = pf := (by exact ((if_pos c_1).trans (rfl))); exact h9.symm), ⟨by rw [ht]; exact hP9, va_K.moved hW.alike hK9, hD9⟩⟩, hS.F ht⟩) hS.2.2 d_Line_fill_17
  · refine lv_iload_n hx hb d_Line_fill_4 rfl (lv_at hl 1 rfl) ?_
    refine lv_iload_n hx hb d_Line_fill_5 rfl (lv_at hl 2 rfl) ?_
    refine lv_icmp_ge (tgt := 17) hx hb d_Line_fill_6 (by decide) (fun c_2 => ?_) (fun c_2 => ?_)
    · have hP9 := hP.sub (ws' := [(o, .inr (2, [.int (nI wd), .ref pa, .ref ca, .int ch.2])), (pa, .inl (cL, ((wd + 63) / 64), .inr (.inl pf))), (ca, .inl (cI, wd, .inl ch.1))]) [0, 1, 2] rfl
      have hD9 := hD.sub (ws' := [(o, .inr (2, [.int (nI wd), .ref pa, .ref ca, .int ch.2])), (pa, .inl (cL, ((wd + 63) / 64), .inr (.inl pf))), (ca, .inl (cI, wd, .inl ch.1))]) [0, 1, 2] (by decide) rfl
      have hK9 := hK
      exact W.vret hx hb hr (fun t ht hW => ⟨⟨pf, rfl, (by have h9 : f_Line_fill wd pf fr to bk = pf := (by exact ((if_neg c_1).trans ((if_pos c_2).trans (rfl)))); exact h9.symm), ⟨by rw [ht]; exact hP9, va_K.moved hW.alike hK9, hD9⟩⟩, hS.F ht⟩) hS.2.2 d_Line_fill_17
    · refine lv_iload_n hx hb d_Line_fill_9 rfl (lv_at hl 2 rfl) ?_
      refine lv_aload_n hx hb d_Line_fill_10 rfl (lv_at hl 0 rfl) ?_
      refine va_get (D := (dC, dI)) (ci := 2) (v := .int (nI wd)) (C := R_Line) (T := F_Line) (N := 4) hx hb hw i_Line hown hK hP 0 rfl rfl 0 (by decide) (hw _ m_97) (fun _ h9 => h9) rfl d_Line_fill_11 ?_
      refine lv_icmp_le (tgt := 18) hx hb d_Line_fill_14 (by decide) (fun c_3 => ?_) (fun c_3 => ?_)
      · refine lv_iload_n hx hb d_Line_fill_18 rfl (lv_at hl 1 rfl) ?_
        refine lv_bipush (v := 6) hx hb d_Line_fill_19 (by decide) ?_
        refine lv_ishr hx hb d_Line_fill_21 ?_
        refine lv_topi (fun x_4 ex_4 => ?_)
        replace ex_4 := ex_4.symm
        refine lv_istore (lv' := [(4, .int x_4), (0, .ref o), (1, .int fr), (2, .int to), (3, .int (bI bk))]) hx hb d_Line_fill_22 hl (by decide) rfl (fun ls hl => ?_)
        have hF9 : f_Line_fill wd pf fr to bk = l_Line_fill_24 wd pf fr to bk (((nI ((wd + 63) / 64)).toInt - Int32.toInt x_4).toNat + 1) pf x_4 := (by subst ex_4; exact ((if_neg c_1).trans ((if_neg c_2).trans ((if_pos c_3).trans (rfl)))))
        have hI9 : ¬ x_4 < 0 := (by subst ex_4; exact shr_nn c_1)
        have hP9 := hP.sub (ws' := [(o, .inr (2, [.int (nI wd), .ref pa, .ref ca, .int ch.2])), (pa, .inl (cL, ((wd + 63) / 64), .inr (.inl pf))), (ca, .inl (cI, wd, .inl ch.1))]) [0, 1, 2] rfl
        have hD9 := hD.sub (ws' := [(o, .inr (2, [.int (nI wd), .ref pa, .ref ca, .int ch.2])), (pa, .inl (cL, ((wd + 63) / 64), .inr (.inl pf))), (ca, .inl (cI, wd, .inl ch.1))]) [0, 1, 2] (by decide) rfl
        have hl9 := lv_sub (l' := [(4, .int x_4), (0, .ref o), (1, .int fr), (2, .int to), (3, .int (bI bk))]) hl [0, 1, 2, 3, 4] rfl
        refine lp_n (pc := 24) (σ := (Nat → Int64) × Int32) (I := fun n v H locs ls => ((nI ((wd + 63) / 64)).toInt - Int32.toInt v.2).toNat < n ∧ f_Line_fill wd pf fr to bk = l_Line_fill_24 wd pf fr to bk n v.1 v.2 ∧ (¬ v.2 < 0) ∧ va_P (dC, dI) classes [(o, .inr (2, [.int (nI wd), .ref pa, .ref ca, .int ch.2])), (pa, .inl (cL, ((wd + 63) / 64), .inr (.inl v.1))), (ca, .inl (cI, wd, .inl ch.1))] H ∧ va_D A [(o, .inr (2, [.int (nI wd), .ref pa, .ref ca, .int ch.2])), (pa, .inl (cL, ((wd + 63) / 64), .inr (.inl v.1))), (ca, .inl (cI, wd, .inl ch.1))] ∧ va_S A s.heap H locs ∧ lv_has ls 9 [(4, .int v.2), (0, .ref o), (1, .int fr), (2, .int to), (3, .int (bI bk))]) (fun v H locs ls h => absurd h.1 (Nat.not_lt_zero _)) ?_ (((nI ((wd + 63) / 64)).toInt - Int32.toInt x_4).toNat + 1) (pf, x_4) _ _ _ ⟨Nat.lt_succ_self _, hF9, hI9, hP9, hD9, hS, hl9⟩
        intro n24 ih24 v H locs ls hI
        obtain ⟨g, k⟩ := v
        obtain ⟨hmu24, hF24, hinv, hP, hD, hS, hl⟩ := hI
        have hmu24 : ((nI ((wd + 63) / 64)).toInt - Int32.toInt k).toNat < n24 + 1 := hmu24
        have hF24 : f_Line_fill wd pf fr to bk = l_Line_fill_24 wd pf fr to bk (n24 + 1) g k := hF24
        have hinv : ¬ k < 0 := hinv
        have hP : va_P (dC, dI) classes [(o, .inr (2, [.int (nI wd), .ref pa, .ref ca, .int ch.2])), (pa, .inl (cL, ((wd + 63) / 64), .inr (.inl g))), (ca, .inl (cI, wd, .inl ch.1))] H := hP
        have hD : va_D A [(o, .inr (2, [.int (nI wd), .ref pa, .ref ca, .int ch.2])), (pa, .inl (cL, ((wd + 63) / 64), .inr (.inl g))), (ca, .inl (cI, wd, .inl ch.1))] := hD
        have hl : lv_has ls 9 [(4, .int k), (0, .ref o), (1, .int fr), (2, .int to), (3, .int (bI bk))] := hl
        refine lv_iload hx hb d_Line_fill_24 (lv_at hl 0 rfl) ?_
        refine lv_aload_n hx hb d_Line_fill_26 rfl (lv_at hl 1 rfl) ?_
        refine va_get (D := (dC, dI)) (ci := 2) (v := .ref pa) (C := R_Line) (T := F_Line) (N := 4) hx hb hw i_Line hown hK hP 0 rfl rfl 1 (by decide) (hw _ m_98) (fun _ h9 => h9) rfl d_Line_fill_27 ?_
        refine va_alen (v := nI ((wd + 63) / 64)) hx hb hK hP 1 1 rfl rfl rfl d_Line_fill_30 ?_
        refine lv_icmp_ge (tgt := 136) hx hb d_Line_fill_31 (by decide) (fun c_5 => ?_) (fun c_5 => ?_)
        · have hP9 := hP.sub (ws' := [(o, .inr (2, [.int (nI wd), .ref pa, .ref ca, .int ch.2])), (pa, .inl (cL, ((wd + 63) / 64), .inr (.inl g))), (ca, .inl (cI, wd, .inl ch.1))]) [0, 1, 2] rfl
          have hD9 := hD.sub (ws' := [(o, .inr (2, [.int (nI wd), .ref pa, .ref ca, .int ch.2])), (pa, .inl (cL, ((wd + 63) / 64), .inr (.inl g))), (ca, .inl (cI, wd, .inl ch.1))]) [0, 1, 2] (by decide) rfl
          have hK9 := hK
          exact W.vret hx hb hr (fun t ht hW => ⟨⟨g, rfl, (by have h9 : f_Line_fill wd pf fr to bk = g := (by exact (hF24.trans ((if_pos c_5).trans (rfl)))); exact h9.symm), ⟨by rw [ht]; exact hP9, va_K.moved hW.alike hK9, hD9⟩⟩, hS.F ht⟩) hS.2.2 d_Line_fill_136
        · refine lv_iload hx hb d_Line_fill_34 (lv_at hl 0 rfl) ?_
          refine lv_iload_n hx hb d_Line_fill_36 rfl (lv_at hl 3 rfl) ?_
          refine lv_iconst (v := 1) hx hb d_Line_fill_37 (by decide) ?_
          refine lv_isub hx hb d_Line_fill_38 ?_
          refine lv_bipush (v := 6) hx hb d_Line_fill_39 (by decide) ?_
          refine lv_ishr hx hb d_Line_fill_41 ?_
          refine lv_icmp_gt (tgt := 136) hx hb d_Line_fill_42 (by decide) (fun c_6 => ?_) (fun c_6 => ?_)
          · have hP9 := hP.sub (ws' := [(o, .inr (2, [.int (nI wd), .ref pa, .ref ca, .int ch.2])), (pa, .inl (cL, ((wd + 63) / 64), .inr (.inl g))), (ca, .inl (cI, wd, .inl ch.1))]) [0, 1, 2] rfl
            have hD9 := hD.sub (ws' := [(o, .inr (2, [.int (nI wd), .ref pa, .ref ca, .int ch.2])), (pa, .inl (cL, ((wd + 63) / 64), .inr (.inl g))), (ca, .inl (cI, wd, .inl ch.1))]) [0, 1, 2] (by decide) rfl
            have hK9 := hK
            exact W.vret hx hb hr (fun t ht hW => ⟨⟨g, rfl, (by have h9 : f_Line_fill wd pf fr to bk = g := (by exact (hF24.trans ((if_neg c_5).trans ((if_pos c_6).trans (rfl))))); exact h9.symm), ⟨by rw [ht]; exact hP9, va_K.moved hW.alike hK9, hD9⟩⟩, hS.F ht⟩) hS.2.2 d_Line_fill_136
          · refine lv_iload_n hx hb d_Line_fill_45 rfl (lv_at hl 2 rfl) ?_
            refine lv_bipush (v := 64) hx hb d_Line_fill_46 (by decide) ?_
            refine lv_iload hx hb d_Line_fill_48 (lv_at hl 0 rfl) ?_
            refine lv_imul hx hb d_Line_fill_50 ?_
            refine lv_isub hx hb d_Line_fill_51 ?_
            refine lv_iconst (v := 0) hx hb d_Line_fill_52 (by decide) ?_
            refine va_mmax hx hb (hml.trans hl.1.symm) hown (hw _ m_311) (hw _ m_66) (hw _ m_36) (hw _ m_67) (Nat.le_of_ble_eq_true rfl) (Nat.le_of_ble_eq_true rfl) (Nat.le_of_ble_eq_true rfl) (Nat.le_of_ble_eq_true rfl) d_Line_fill_53 ?_
            refine lv_topi (fun x_7 ex_7 => ?_)
            replace ex_7 := ex_7.symm
            refine lv_istore (lv' := [(5, .int x_7), (4, .int k), (0, .ref o), (1, .int fr), (2, .int to), (3, .int (bI bk))]) hx hb d_Line_fill_56 hl (by decide) rfl (fun ls hl => ?_)
            refine lv_iload_n hx hb d_Line_fill_58 rfl (lv_at hl 4 rfl) ?_
            refine lv_iconst (v := 1) hx hb d_Line_fill_59 (by decide) ?_
            refine lv_isub hx hb d_Line_fill_60 ?_
            refine lv_bipush (v := 64) hx hb d_Line_fill_61 (by decide) ?_
            refine lv_iload hx hb d_Line_fill_63 (lv_at hl 1 rfl) ?_
            refine lv_imul hx hb d_Line_fill_65 ?_
            refine lv_isub hx hb d_Line_fill_66 ?_
            refine lv_bipush (v := 63) hx hb d_Line_fill_67 (by decide) ?_
            refine va_mmin hx hb (hml.trans hl.1.symm) hown (hw _ m_312) (hw _ m_63) (hw _ m_36) (hw _ m_64) (Nat.le_of_ble_eq_true rfl) (Nat.le_of_ble_eq_true rfl) (Nat.le_of_ble_eq_true rfl) (Nat.le_of_ble_eq_true rfl) d_Line_fill_69 ?_
            refine lv_topi (fun x_8 ex_8 => ?_)
            replace ex_8 := ex_8.symm
            refine lv_istore (lv' := [(6, .int x_8), (5, .int x_7), (4, .int k), (0, .ref o), (1, .int fr), (2, .int to), (3, .int (bI bk))]) hx hb d_Line_fill_72 hl (by decide) rfl (fun ls hl => ?_)
            refine lv_ldc2 (v := (-1)) hx hb hown (hw _ m_313) d_Line_fill_74 ?_
            refine lv_iload hx hb d_Line_fill_77 (lv_at hl 1 rfl) ?_
            refine lv_lushr hx hb d_Line_fill_79 rfl ?_
            refine lv_ldc2 (v := (-1)) hx hb hown (hw _ m_313) d_Line_fill_80 ?_
            refine lv_bipush (v := 63) hx hb d_Line_fill_83 (by decide) ?_
            refine lv_iload hx hb d_Line_fill_85 (lv_at hl 0 rfl) ?_
            refine lv_isub hx hb d_Line_fill_87 ?_
            refine lv_lshl hx hb d_Line_fill_88 rfl ?_
            refine lv_land hx hb d_Line_fill_89 ?_
            refine lv_topl (fun x_9 ex_9 => ?_)
            replace ex_9 := ex_9.symm
            refine lv_lstore (lv' := [(7, .long x_9), (6, .int x_8), (5, .int x_7), (4, .int k), (0, .ref o), (1, .int fr), (2, .int to), (3, .int (bI bk))]) hx hb d_Line_fill_90 hl (by decide) rfl (fun ls hl => ?_)
            refine lv_aload_n hx hb d_Line_fill_92 rfl (lv_at hl 4 rfl) ?_
            refine va_get (D := (dC, dI)) (ci := 2) (v := .ref pa) (C := R_Line) (T := F_Line) (N := 4) hx hb hw i_Line hown hK hP 0 rfl rfl 1 (by decide) (hw _ m_98) (fun _ h9 => h9) rfl d_Line_fill_93 ?_
            refine lv_iload hx hb d_Line_fill_96 (lv_at hl 3 rfl) ?_
            refine lv_iload_n hx hb d_Line_fill_98 rfl (lv_at hl 7 rfl) ?_
            refine lv_if_eq (tgt := 115) hx hb d_Line_fill_99 (by decide) (fun c_10 => ?_) (fun c_10 => ?_)
            · refine lv_aload_n hx hb d_Line_fill_115 rfl (lv_at hl 4 rfl) ?_
              refine va_get (D := (dC, dI)) (ci := 2) (v := .ref pa) (C := R_Line) (T := F_Line) (N := 4) hx hb hw i_Line hown hK hP 0 rfl rfl 1 (by decide) (hw _ m_98) (fun _ h9 => h9) rfl d_Line_fill_116 ?_
              refine lv_iload hx hb d_Line_fill_119 (lv_at hl 3 rfl) ?_
              refine va_lald hx hb hK hP 1 1 rfl rfl (ix_b (by omega) hinv c_5) d_Line_fill_121 ?_
              refine lv_lload hx hb d_Line_fill_122 (lv_at hl 0 rfl) ?_
              refine lv_ldc2 (v := (-1)) hx hb hown (hw _ m_313) d_Line_fill_124 ?_
              refine lv_lxor hx hb d_Line_fill_127 ?_
              refine lv_land hx hb d_Line_fill_128 ?_
              refine lv_topl (fun x_11 ex_11 => ?_)
              replace ex_11 := ex_11.symm
              refine va_last hx hb hK hP hD hS 1 1 rfl rfl (ix_b (by omega) hinv c_5) d_Line_fill_129 (fun H locs hP hD hS => ?_)
              obtain ⟨g_12, eg_12⟩ : ∃ y : Nat → Int64, y = vp_updL g k.toNatClampNeg x_11 := ⟨_, rfl⟩
              rw [← eg_12] at hP hD
              replace eg_12 := eg_12.symm
              have hP : va_P (dC, dI) classes [(o, .inr (2, [.int (nI wd), .ref pa, .ref ca, .int ch.2])), (pa, .inl (cL, ((wd + 63) / 64), .inr (.inl g_12))), (ca, .inl (cI, wd, .inl ch.1))] H := hP
              have hD : va_D A [(o, .inr (2, [.int (nI wd), .ref pa, .ref ca, .int ch.2])), (pa, .inl (cL, ((wd + 63) / 64), .inr (.inl g_12))), (ca, .inl (cI, wd, .inl ch.1))] := hD
              obtain ⟨x_13, ex_13⟩ : ∃ y : Int32, y = k + 1 := ⟨_, rfl⟩
              refine lv_iinc (v := x_13) (lv' := [(4, .int x_13), (7, .long x_9), (6, .int x_8), (5, .int x_7), (0, .ref o), (1, .int fr), (2, .int to), (3, .int (bI bk))]) hx hb d_Line_fill_130 hl (k := 3) rfl (by rw [ex_13]; rfl) (by decide) rfl (fun ls hl => ?_)
              replace ex_13 := ex_13.symm
              refine lv_goto (tgt := 24) hx hb d_Line_fill_133 (by decide) ?_
              have hF9 : f_Line_fill wd pf fr to bk = l_Line_fill_24 wd pf fr to bk n24 g_12 x_13 := (by subst ex_7 ex_8 ex_9 ex_11 eg_12 ex_13; exact (hF24.trans ((if_neg c_5).trans ((if_neg c_6).trans ((if_pos c_10).trans (rfl))))))
              have hI9 : ¬ x_13 < 0 := (by subst ex_7 ex_8 ex_9 ex_11 eg_12 ex_13; exact nn_s (by omega) hinv c_5)
              have hP9 := hP.sub (ws' := [(o, .inr (2, [.int (nI wd), .ref pa, .ref ca, .int ch.2])), (pa, .inl (cL, ((wd + 63) / 64), .inr (.inl g_12))), (ca, .inl (cI, wd, .inl ch.1))]) [0, 1, 2] rfl
              have hD9 := hD.sub (ws' := [(o, .inr (2, [.int (nI wd), .ref pa, .ref ca, .int ch.2])), (pa, .inl (cL, ((wd + 63) / 64), .inr (.inl g_12))), (ca, .inl (cI, wd, .inl ch.1))]) [0, 1, 2] (by decide) rfl
              have hl9 := lv_sub (l' := [(4, .int x_13), (0, .ref o), (1, .int fr), (2, .int to), (3, .int (bI bk))]) hl [0, 4, 5, 6, 7] rfl
              have hm9 : ((nI ((wd + 63) / 64)).toInt - Int32.toInt x_13).toNat < ((nI ((wd + 63) / 64)).toInt - Int32.toInt k).toNat := (by subst ex_7 ex_8 ex_9 ex_11 eg_12 ex_13; exact mu_b c_5)
              exact ih24 (g_12, x_13) _ _ _ ⟨Nat.lt_of_lt_of_le hm9 (Nat.le_of_lt_succ hmu24), hF9, hI9, hP9, hD9, hS, hl9⟩
            · refine lv_aload_n hx hb d_Line_fill_102 rfl (lv_at hl 4 rfl) ?_
              refine va_get (D := (dC, dI)) (ci := 2) (v := .ref pa) (C := R_Line) (T := F_Line) (N := 4) hx hb hw i_Line hown hK hP 0 rfl rfl 1 (by decide) (hw _ m_98) (fun _ h9 => h9) rfl d_Line_fill_103 ?_
              refine lv_iload hx hb d_Line_fill_106 (lv_at hl 3 rfl) ?_
              refine va_lald hx hb hK hP 1 1 rfl rfl (ix_b (by omega) hinv c_5) d_Line_fill_108 ?_
              refine lv_lload hx hb d_Line_fill_109 (lv_at hl 0 rfl) ?_
              refine lv_lor hx hb d_Line_fill_111 ?_
              refine lv_goto (tgt := 129) hx hb d_Line_fill_112 (by decide) ?_
              refine lv_topl (fun x_14 ex_14 => ?_)
              replace ex_14 := ex_14.symm
              refine va_last hx hb hK hP hD hS 1 1 rfl rfl (ix_b (by omega) hinv c_5) d_Line_fill_129 (fun H locs hP hD hS => ?_)
              obtain ⟨g_15, eg_15⟩ : ∃ y : Nat → Int64, y = vp_updL g k.toNatClampNeg x_14 := ⟨_, rfl⟩
              rw [← eg_15] at hP hD
              replace eg_15 := eg_15.symm
              have hP : va_P (dC, dI) classes [(o, .inr (2, [.int (nI wd), .ref pa, .ref ca, .int ch.2])), (pa, .inl (cL, ((wd + 63) / 64), .inr (.inl g_15))), (ca, .inl (cI, wd, .inl ch.1))] H := hP
              have hD : va_D A [(o, .inr (2, [.int (nI wd), .ref pa, .ref ca, .int ch.2])), (pa, .inl (cL, ((wd + 63) / 64), .inr (.inl g_15))), (ca, .inl (cI, wd, .inl ch.1))] := hD
              obtain ⟨x_16, ex_16⟩ : ∃ y : Int32, y = k + 1 := ⟨_, rfl⟩
              refine lv_iinc (v := x_16) (lv' := [(4, .int x_16), (7, .long x_9), (6, .int x_8), (5, .int x_7), (0, .ref o), (1, .int fr), (2, .int to), (3, .int (bI bk))]) hx hb d_Line_fill_130 hl (k := 3) rfl (by rw [ex_16]; rfl) (by decide) rfl (fun ls hl => ?_)
              replace ex_16 := ex_16.symm
              refine lv_goto (tgt := 24) hx hb d_Line_fill_133 (by decide) ?_
              have hF9 : f_Line_fill wd pf fr to bk = l_Line_fill_24 wd pf fr to bk n24 g_15 x_16 := (by subst ex_7 ex_8 ex_9 ex_14 eg_15 ex_16; exact (hF24.trans ((if_neg c_5).trans ((if_neg c_6).trans ((if_neg c_10).trans (rfl))))))
              have hI9 : ¬ x_16 < 0 := (by subst ex_7 ex_8 ex_9 ex_14 eg_15 ex_16; exact nn_s (by omega) hinv c_5)
              have hP9 := hP.sub (ws' := [(o, .inr (2, [.int (nI wd), .ref pa, .ref ca, .int ch.2])), (pa, .inl (cL, ((wd + 63) / 64), .inr (.inl g_15))), (ca, .inl (cI, wd, .inl ch.1))]) [0, 1, 2] rfl
              have hD9 := hD.sub (ws' := [(o, .inr (2, [.int (nI wd), .ref pa, .ref ca, .int ch.2])), (pa, .inl (cL, ((wd + 63) / 64), .inr (.inl g_15))), (ca, .inl (cI, wd, .inl ch.1))]) [0, 1, 2] (by decide) rfl
              have hl9 := lv_sub (l' := [(4, .int x_16), (0, .ref o), (1, .int fr), (2, .int to), (3, .int (bI bk))]) hl [0, 4, 5, 6, 7] rfl
              have hm9 : ((nI ((wd + 63) / 64)).toInt - Int32.toInt x_16).toNat < ((nI ((wd + 63) / 64)).toInt - Int32.toInt k).toNat := (by subst ex_7 ex_8 ex_9 ex_14 eg_15 ex_16; exact mu_b c_5)
              exact ih24 (g_15, x_16) _ _ _ ⟨Nat.lt_of_lt_of_le hm9 (Nat.le_of_lt_succ hmu24), hF9, hI9, hP9, hD9, hS, hl9⟩
      · have hP9 := hP.sub (ws' := [(o, .inr (2, [.int (nI wd), .ref pa, .ref ca, .int ch.2])), (pa, .inl (cL, ((wd + 63) / 64), .inr (.inl pf))), (ca, .inl (cI, wd, .inl ch.1))]) [0, 1, 2] rfl
        have hD9 := hD.sub (ws' := [(o, .inr (2, [.int (nI wd), .ref pa, .ref ca, .int ch.2])), (pa, .inl (cL, ((wd + 63) / 64), .inr (.inl pf))), (ca, .inl (cI, wd, .inl ch.1))]) [0, 1, 2] (by decide) rfl
        have hK9 := hK
        exact W.vret hx hb hr (fun t ht hW => ⟨⟨pf, rfl, (by have h9 : f_Line_fill wd pf fr to bk = pf := (by exact ((if_neg c_1).trans ((if_neg c_2).trans ((if_neg c_3).trans (rfl))))); exact h9.symm), ⟨by rw [ht]; exact hP9, va_K.moved hW.alike hK9, hD9⟩⟩, hS.F ht⟩) hS.2.2 d_Line_fill_17
def f_Line_placeOf (wd : Nat) (ch : (Nat → Int32) × Int32) (k : Int32) : Int32 := if k < 0 then (nI wd) else (if ch.2 ≤ k then (nI wd) else (if k < (nI wd) then (ch.1 k.toNatClampNeg) else (nI wd)))
set_option maxHeartbeats 4000000 in
set_option maxRecDepth 100000 in
theorem c_Line_placeOf (l : Launch) (dC : Nat → ClassId) (dI : Nat → Nat → Nat) (cI cL : ClassId) (o : Nat) (pa : Nat) (ca : Nat) (wd : Nat) (pf : Nat → Int64) (ch : (Nat → Int32) × Int32) (sz : Nat)  (k : Int32) (hwd : wd ≤ 10000) : Met l y_Line_placeOf w_Line_placeOf ({ frames := 0, cells := 0, slots := 0, locals := 0 }) (va_Pc [.ref o, .int k] (fun U => U.heap.size = sz ∧ va_P (dC, dI) classes [(o, .inr (2, [.int (nI wd), .ref pa, .ref ca, .int ch.2])), (pa, .inl (cL, ((wd + 63) / 64), .inr (.inl pf))), (ca, .inl (cI, wd, .inl ch.1))] U.heap ∧ va_K (dC, dI) classes [(cI, .int), (cL, .long)] U ∧ va_D (fun _ => True) [(o, .inr (2, [.int (nI wd), .ref pa, .ref ca, .int ch.2])), (pa, .inl (cL, ((wd + 63) / 64), .inr (.inl pf))), (ca, .inl (cI, wd, .inl ch.1))])) (va_Qi (fun (r : Int32) (u : Unit) => r = f_Line_placeOf wd ch k) (fun (u : Unit) (t : State) => va_P (dC, dI) classes [(o, .inr (2, [.int (nI wd), .ref pa, .ref ca, .int ch.2])), (pa, .inl (cL, ((wd + 63) / 64), .inr (.inl pf))), (ca, .inl (cI, wd, .inl ch.1))] t.heap ∧ va_K (dC, dI) classes [(cI, .int), (cL, .long)] t ∧ va_D (va_A [(o, .inr (2, [.int (nI wd), .ref pa, .ref ca, .int ch.2])), (pa, .inl (cL, ((wd + 63) / 64), .inr (.inl pf))), (ca, .inl (cI, wd, .inl ch.1))] sz) [(o, .inr (2, [.int (nI wd), .ref pa, .ref ca, .int ch.2])), (pa, .inl (cL, ((wd + 63) / 64), .inr (.inl pf))), (ca, .inl (cI, wd, .inl ch.1))]) (va_A [(o, .inr (2, [.int (nI wd), .ref pa, .ref ca, .int ch.2])), (pa, .inl (cL, ((wd + 63) / 64), .inr (.inl pf))), (ca, .inl (cI, wd, .inl ch.1))] sz)) 0 0 (va_A [(o, .inr (2, [.int (nI wd), .ref pa, .ref ca, .int ch.2])), (pa, .inl (cL, ((wd + 63) / 64), .inr (.inl pf))), (ca, .inl (cI, wd, .inl ch.1))] sz) := by
  refine Met.ofW (cc := b_Line_placeOf) (maxL := 2) (ret := (some .int)) (by decide) rfl ?_
  intro p e s m args below meth c s₁ B hml hv
  obtain ⟨rfl, hsz, hP, hK, hD0⟩ := hv
  have hx := B.exec
  have hb := B.bytes
  have hr := B.returns
  have hts := atoms_spec (ws := w_Line_placeOf) B.pre
  have hw : ∀ w ∈ WA, w.before _ s = true := fun w h => hts w (List.mem_cons_of_mem _ h)
  have hown : s.vm.findClass R_Line = some m.cls := findClass_of_methodNamed B.named
  have hlocks := B.notSynchronized
  subst hsz
  have hD := hD0.self (sz := s.heap.size)
  generalize hAe : va_A [(o, .inr (2, [.int (nI wd), .ref pa, .ref ca, .int ch.2])), (pa, .inl (cL, ((wd + 63) / 64), .inr (.inl pf))), (ca, .inl (cI, wd, .inl ch.1))] s.heap.size = A at hD ⊢
  have hA : ∀ q : Nat, s.heap.size ≤ q → A q := fun q h => by rw [← hAe]; exact Or.inr h
  have hS : va_S A s.heap s.heap [] := va_S.rf
  have hP : va_P (dC, dI) classes [(o, .inr (2, [.int (nI wd), .ref pa, .ref ca, .int ch.2])), (pa, .inl (cL, ((wd + 63) / 64), .inr (.inl pf))), (ca, .inl (cI, wd, .inl ch.1))] s.heap := hP
  have hl := lv_entry ([.ref o, .int k]) (n := 2) (Nat.le_of_ble_eq_true rfl)
  rw [lg_entry_eq]
  generalize (lg_sl ([.ref o, .int k]) ++ List.replicate (2 - (lg_sl ([.ref o, .int k])).length) Slot.unset).toArray = ls at hl ⊢
  have hl : lv_has ls 2 [(0, .ref o), (1, .int k)] := hl
  refine lv_iload_n hx hb d_Line_placeOf_0 rfl (lv_at hl 1 rfl) ?_
  refine lv_if_lt (tgt := 21) hx hb d_Line_placeOf_1 (by decide) (fun c_1 => ?_) (fun c_1 => ?_)
  · refine lv_aload_n hx hb d_Line_placeOf_21 rfl (lv_at hl 0 rfl) ?_
    refine va_get (D := (dC, dI)) (ci := 2) (v := .int (nI wd)) (C := R_Line) (T := F_Line) (N := 4) hx hb hw i_Line hown hK hP 0 rfl rfl 0 (by decide) (hw _ m_97) (fun _ h9 => h9) rfl d_Line_placeOf_22 ?_
    refine lv_goto (tgt := 34) hx hb d_Line_placeOf_25 (by decide) ?_
    have hP9 := hP.sub (ws' := [(o, .inr (2, [.int (nI wd), .ref pa, .ref ca, .int ch.2])), (pa, .inl (cL, ((wd + 63) / 64), .inr (.inl pf))), (ca, .inl (cI, wd, .inl ch.1))]) [0, 1, 2] rfl
    have hD9 := hD.sub (ws' := [(o, .inr (2, [.int (nI wd), .ref pa, .ref ca, .int ch.2])), (pa, .inl (cL, ((wd + 63) / 64), .inr (.inl pf))), (ca, .inl (cI, wd, .inl ch.1))]) [0, 1, 2] (by decide) rfl
    have hK9 := hK
    exact W.iret (v := nI wd) hx hb hr (fun t ht hW => ⟨⟨nI wd, (), rfl, (by have h9 : f_Line_placeOf wd ch k = nI wd := (by exact ((if_pos c_1).trans (rfl))); exact h9.symm), ⟨by rw [ht]; exact hP9, va_K.moved hW.alike hK9, hD9⟩⟩, hS.F ht⟩) hS.2.2 d_Line_placeOf_34
  · refine lv_iload_n hx hb d_Line_placeOf_4 rfl (lv_at hl 1 rfl) ?_
    refine lv_aload_n hx hb d_Line_placeOf_5 rfl (lv_at hl 0 rfl) ?_
    refine va_get (D := (dC, dI)) (ci := 2) (v := .int ch.2) (C := R_Line) (T := F_Line) (N := 4) hx hb hw i_Line hown hK hP 0 rfl rfl 3 (by decide) (hw _ m_100) (fun _ h9 => h9) rfl d_Line_placeOf_6 ?_
    refine lv_icmp_ge (tgt := 21) hx hb d_Line_placeOf_9 (by decide) (fun c_2 => ?_) (fun c_2 => ?_)
    · refine lv_aload_n hx hb d_Line_placeOf_21 rfl (lv_at hl 0 rfl) ?_
      refine va_get (D := (dC, dI)) (ci := 2) (v := .int (nI wd)) (C := R_Line) (T := F_Line) (N := 4) hx hb hw i_Line hown hK hP 0 rfl rfl 0 (by decide) (hw _ m_97) (fun _ h9 => h9) rfl d_Line_placeOf_22 ?_
      refine lv_goto (tgt := 34) hx hb d_Line_placeOf_25 (by decide) ?_
      have hP9 := hP.sub (ws' := [(o, .inr (2, [.int (nI wd), .ref pa, .ref ca, .int ch.2])), (pa, .inl (cL, ((wd + 63) / 64), .inr (.inl pf))), (ca, .inl (cI, wd, .inl ch.1))]) [0, 1, 2] rfl
      have hD9 := hD.sub (ws' := [(o, .inr (2, [.int (nI wd), .ref pa, .ref ca, .int ch.2])), (pa, .inl (cL, ((wd + 63) / 64), .inr (.inl pf))), (ca, .inl (cI, wd, .inl ch.1))]) [0, 1, 2] (by decide) rfl
      have hK9 := hK
      exact W.iret (v := nI wd) hx hb hr (fun t ht hW => ⟨⟨nI wd, (), rfl, (by have h9 : f_Line_placeOf wd ch k = nI wd := (by exact ((if_neg c_1).trans ((if_pos c_2).trans (rfl)))); exact h9.symm), ⟨by rw [ht]; exact hP9, va_K.moved hW.alike hK9, hD9⟩⟩, hS.F ht⟩) hS.2.2 d_Line_placeOf_34
    · refine lv_iload_n hx hb d_Line_placeOf_12 rfl (lv_at hl 1 rfl) ?_
      refine lv_aload_n hx hb d_Line_placeOf_13 rfl (lv_at hl 0 rfl) ?_
      refine va_get (D := (dC, dI)) (ci := 2) (v := .ref ca) (C := R_Line) (T := F_Line) (N := 4) hx hb hw i_Line hown hK hP 0 rfl rfl 2 (by decide) (hw _ m_99) (fun _ h9 => h9) rfl d_Line_placeOf_14 ?_
      refine va_alen (v := nI wd) hx hb hK hP 2 0 rfl rfl rfl d_Line_placeOf_17 ?_
      refine lv_icmp_lt (tgt := 28) hx hb d_Line_placeOf_18 (by decide) (fun c_3 => ?_) (fun c_3 => ?_)
      · refine lv_aload_n hx hb d_Line_placeOf_28 rfl (lv_at hl 0 rfl) ?_
        refine va_get (D := (dC, dI)) (ci := 2) (v := .ref ca) (C := R_Line) (T := F_Line) (N := 4) hx hb hw i_Line hown hK hP 0 rfl rfl 2 (by decide) (hw _ m_99) (fun _ h9 => h9) rfl d_Line_placeOf_29 ?_
        refine lv_iload_n hx hb d_Line_placeOf_32 rfl (lv_at hl 1 rfl) ?_
        refine va_iald hx hb hK hP 2 0 rfl rfl (ix_a (by omega) c_1 c_3) d_Line_placeOf_33 ?_
        have hP9 := hP.sub (ws' := [(o, .inr (2, [.int (nI wd), .ref pa, .ref ca, .int ch.2])), (pa, .inl (cL, ((wd + 63) / 64), .inr (.inl pf))), (ca, .inl (cI, wd, .inl ch.1))]) [0, 1, 2] rfl
        have hD9 := hD.sub (ws' := [(o, .inr (2, [.int (nI wd), .ref pa, .ref ca, .int ch.2])), (pa, .inl (cL, ((wd + 63) / 64), .inr (.inl pf))), (ca, .inl (cI, wd, .inl ch.1))]) [0, 1, 2] (by decide) rfl
        have hK9 := hK
        exact W.iret (v := ch.1 k.toNatClampNeg) hx hb hr (fun t ht hW => ⟨⟨ch.1 k.toNatClampNeg, (), rfl, (by have h9 : f_Line_placeOf wd ch k = ch.1 k.toNatClampNeg := (by exact ((if_neg c_1).trans ((if_neg c_2).trans ((if_pos c_3).trans (rfl))))); exact h9.symm), ⟨by rw [ht]; exact hP9, va_K.moved hW.alike hK9, hD9⟩⟩, hS.F ht⟩) hS.2.2 d_Line_placeOf_34
      · refine lv_aload_n hx hb d_Line_placeOf_21 rfl (lv_at hl 0 rfl) ?_
        refine va_get (D := (dC, dI)) (ci := 2) (v := .int (nI wd)) (C := R_Line) (T := F_Line) (N := 4) hx hb hw i_Line hown hK hP 0 rfl rfl 0 (by decide) (hw _ m_97) (fun _ h9 => h9) rfl d_Line_placeOf_22 ?_
        refine lv_goto (tgt := 34) hx hb d_Line_placeOf_25 (by decide) ?_
        have hP9 := hP.sub (ws' := [(o, .inr (2, [.int (nI wd), .ref pa, .ref ca, .int ch.2])), (pa, .inl (cL, ((wd + 63) / 64), .inr (.inl pf))), (ca, .inl (cI, wd, .inl ch.1))]) [0, 1, 2] rfl
        have hD9 := hD.sub (ws' := [(o, .inr (2, [.int (nI wd), .ref pa, .ref ca, .int ch.2])), (pa, .inl (cL, ((wd + 63) / 64), .inr (.inl pf))), (ca, .inl (cI, wd, .inl ch.1))]) [0, 1, 2] (by decide) rfl
        have hK9 := hK
        exact W.iret (v := nI wd) hx hb hr (fun t ht hW => ⟨⟨nI wd, (), rfl, (by have h9 : f_Line_placeOf wd ch k = nI wd := (by exact ((if_neg c_1).trans ((if_neg c_2).trans ((if_neg c_3).trans (rfl))))); exact h9.symm), ⟨by rw [ht]; exact hP9, va_K.moved hW.alike hK9, hD9⟩⟩, hS.F ht⟩) hS.2.2 d_Line_placeOf_34
def l_Line_firstRightOf_2 (wd : Nat) (ch : (Nat → Int32) × Int32) (x : Int32) (i : Int32) : Nat → Int32 → Int32
  | 0, _ => default
  | n2 + 1, k => if ch.2 ≤ k then (k) else (let r_2 := f_Line_placeOf wd ch k; if x < r_2 then (k) else (let x_4 := k + 1; l_Line_firstRightOf_2 wd ch x i n2 x_4))
def f_Line_firstRightOf (wd : Nat) (ch : (Nat → Int32) × Int32) (x : Int32) (i : Int32) : Int32 := l_Line_firstRightOf_2 wd ch x i ((Int32.toInt ch.2 - Int32.toInt i).toNat + 1) i
set_option maxHeartbeats 4000000 in
set_option maxRecDepth 100000 in
theorem c_Line_firstRightOf (l : Launch) (dC : Nat → ClassId) (dI : Nat → Nat → Nat) (cI cL : ClassId) (o : Nat) (pa : Nat) (ca : Nat) (wd : Nat) (pf : Nat → Int64) (ch : (Nat → Int32) × Int32) (sz : Nat)  (x : Int32) (i : Int32) (hwd : wd ≤ 10000) : Met l y_Line_firstRightOf w_Line_firstRightOf ({ frames := 1, cells := 0, slots := 0, locals := 21 }) (va_Pc [.ref o, .int x, .int i] (fun U => U.heap.size = sz ∧ va_P (dC, dI) classes [(o, .inr (2, [.int (nI wd), .ref pa, .ref ca, .int ch.2])), (pa, .inl (cL, ((wd + 63) / 64), .inr (.inl pf))), (ca, .inl (cI, wd, .inl ch.1))] U.heap ∧ va_K (dC, dI) classes [(cI, .int), (cL, .long)] U ∧ va_D (fun _ => True) [(o, .inr (2, [.int (nI wd), .ref pa, .ref ca, .int ch.2])), (pa, .inl (cL, ((wd + 63) / 64), .inr (.inl pf))), (ca, .inl (cI, wd, .inl ch.1))])) (va_Qi (fun (r : Int32) (u : Unit) => r = f_Line_firstRightOf wd ch x i) (fun (u : Unit) (t : State) => va_P (dC, dI) classes [(o, .inr (2, [.int (nI wd), .ref pa, .ref ca, .int ch.2])), (pa, .inl (cL, ((wd + 63) / 64), .inr (.inl pf))), (ca, .inl (cI, wd, .inl ch.1))] t.heap ∧ va_K (dC, dI) classes [(cI, .int), (cL, .long)] t ∧ va_D (va_A [(o, .inr (2, [.int (nI wd), .ref pa, .ref ca, .int ch.2])), (pa, .inl (cL, ((wd + 63) / 64), .inr (.inl pf))), (ca, .inl (cI, wd, .inl ch.1))] sz) [(o, .inr (2, [.int (nI wd), .ref pa, .ref ca, .int ch.2])), (pa, .inl (cL, ((wd + 63) / 64), .inr (.inl pf))), (ca, .inl (cI, wd, .inl ch.1))]) (va_A [(o, .inr (2, [.int (nI wd), .ref pa, .ref ca, .int ch.2])), (pa, .inl (cL, ((wd + 63) / 64), .inr (.inl pf))), (ca, .inl (cI, wd, .inl ch.1))] sz)) 0 0 (va_A [(o, .inr (2, [.int (nI wd), .ref pa, .ref ca, .int ch.2])), (pa, .inl (cL, ((wd + 63) / 64), .inr (.inl pf))), (ca, .inl (cI, wd, .inl ch.1))] sz) := by
  refine Met.ofW (cc := b_Line_firstRightOf) (maxL := 4) (ret := (some .int)) (by decide) rfl ?_
  intro p e s m args below meth c s₁ B hml hv
  obtain ⟨rfl, hsz, hP, hK, hD0⟩ := hv
  have hx := B.exec
  have hb := B.bytes
  have hr := B.returns
  have hts := atoms_spec (ws := w_Line_firstRightOf) B.pre
  have hw : ∀ w ∈ WA, w.before _ s = true := fun w h => hts w (List.mem_cons_of_mem _ h)
  have hown : s.vm.findClass R_Line = some m.cls := findClass_of_methodNamed B.named
  have hlocks := B.notSynchronized
  subst hsz
  have hD := hD0.self (sz := s.heap.size)
  generalize hAe : va_A [(o, .inr (2, [.int (nI wd), .ref pa, .ref ca, .int ch.2])), (pa, .inl (cL, ((wd + 63) / 64), .inr (.inl pf))), (ca, .inl (cI, wd, .inl ch.1))] s.heap.size = A at hD ⊢
  have hA : ∀ q : Nat, s.heap.size ≤ q → A q := fun q h => by rw [← hAe]; exact Or.inr h
  have hS : va_S A s.heap s.heap [] := va_S.rf
  have hP : va_P (dC, dI) classes [(o, .inr (2, [.int (nI wd), .ref pa, .ref ca, .int ch.2])), (pa, .inl (cL, ((wd + 63) / 64), .inr (.inl pf))), (ca, .inl (cI, wd, .inl ch.1))] s.heap := hP
  have hl := lv_entry ([.ref o, .int x, .int i]) (n := 4) (Nat.le_of_ble_eq_true rfl)
  rw [lg_entry_eq]
  generalize (lg_sl ([.ref o, .int x, .int i]) ++ List.replicate (4 - (lg_sl ([.ref o, .int x, .int i])).length) Slot.unset).toArray = ls at hl ⊢
  have hl : lv_has ls 4 [(0, .ref o), (1, .int x), (2, .int i)] := hl
  refine lv_iload_n hx hb d_Line_firstRightOf_0 rfl (lv_at hl 2 rfl) ?_
  refine lv_istore_n (lv' := [(3, .int i), (0, .ref o), (1, .int x), (2, .int i)]) hx hb d_Line_firstRightOf_1 rfl hl (by decide) rfl (fun ls hl => ?_)
  have hF9 : f_Line_firstRightOf wd ch x i = l_Line_firstRightOf_2 wd ch x i ((Int32.toInt ch.2 - Int32.toInt i).toNat + 1) i := (by exact (rfl))
  have hI9 : True := (by trivial)
  have hP9 := hP.sub (ws' := [(o, .inr (2, [.int (nI wd), .ref pa, .ref ca, .int ch.2])), (pa, .inl (cL, ((wd + 63) / 64), .inr (.inl pf))), (ca, .inl (cI, wd, .inl ch.1))]) [0, 1, 2] rfl
  have hD9 := hD.sub (ws' := [(o, .inr (2, [.int (nI wd), .ref pa, .ref ca, .int ch.2])), (pa, .inl (cL, ((wd + 63) / 64), .inr (.inl pf))), (ca, .inl (cI, wd, .inl ch.1))]) [0, 1, 2] (by decide) rfl
  have hl9 := lv_sub (l' := [(3, .int i), (0, .ref o), (1, .int x), (2, .int i)]) hl [0, 1, 2, 3] rfl
  refine lp_n (pc := 2) (σ := Int32) (I := fun n v H locs ls => (Int32.toInt ch.2 - Int32.toInt v).toNat < n ∧ f_Line_firstRightOf wd ch x i = l_Line_firstRightOf_2 wd ch x i n v ∧ (True) ∧ va_P (dC, dI) classes [(o, .inr (2, [.int (nI wd), .ref pa, .ref ca, .int ch.2])), (pa, .inl (cL, ((wd + 63) / 64), .inr (.inl pf))), (ca, .inl (cI, wd, .inl ch.1))] H ∧ va_D A [(o, .inr (2, [.int (nI wd), .ref pa, .ref ca, .int ch.2])), (pa, .inl (cL, ((wd + 63) / 64), .inr (.inl pf))), (ca, .inl (cI, wd, .inl ch.1))] ∧ va_S A s.heap H locs ∧ lv_has ls 4 [(3, .int v), (0, .ref o), (1, .int x), (2, .int i)]) (fun v H locs ls h => absurd h.1 (Nat.not_lt_zero _)) ?_ ((Int32.toInt ch.2 - Int32.toInt i).toNat + 1) i _ _ _ ⟨Nat.lt_succ_self _, hF9, hI9, hP9, hD9, hS, hl9⟩
  intro n2 ih2 v H locs ls hI
  obtain ⟨k, rfl⟩ : ∃ z, z = v := ⟨_, rfl⟩
  obtain ⟨hmu2, hF2, hinv, hP, hD, hS, hl⟩ := hI
  have hmu2 : (Int32.toInt ch.2 - Int32.toInt k).toNat < n2 + 1 := hmu2
  have hF2 : f_Line_firstRightOf wd ch x i = l_Line_firstRightOf_2 wd ch x i (n2 + 1) k := hF2
  have hP : va_P (dC, dI) classes [(o, .inr (2, [.int (nI wd), .ref pa, .ref ca, .int ch.2])), (pa, .inl (cL, ((wd + 63) / 64), .inr (.inl pf))), (ca, .inl (cI, wd, .inl ch.1))] H := hP
  have hD : va_D A [(o, .inr (2, [.int (nI wd), .ref pa, .ref ca, .int ch.2])), (pa, .inl (cL, ((wd + 63) / 64), .inr (.inl pf))), (ca, .inl (cI, wd, .inl ch.1))] := hD
  have hl : lv_has ls 4 [(3, .int k), (0, .ref o), (1, .int x), (2, .int i)] := hl
  refine lv_iload_n hx hb d_Line_firstRightOf_2 rfl (lv_at hl 0 rfl) ?_
  refine lv_aload_n hx hb d_Line_firstRightOf_3 rfl (lv_at hl 1 rfl) ?_
  refine va_get (D := (dC, dI)) (ci := 2) (v := .int ch.2) (C := R_Line) (T := F_Line) (N := 4) hx hb hw i_Line hown hK hP 0 rfl rfl 3 (by decide) (hw _ m_100) (fun _ h9 => h9) rfl d_Line_firstRightOf_4 ?_
  refine lv_icmp_ge (tgt := 25) hx hb d_Line_firstRightOf_7 (by decide) (fun c_1 => ?_) (fun c_1 => ?_)
  · refine lv_iload_n hx hb d_Line_firstRightOf_25 rfl (lv_at hl 0 rfl) ?_
    have hP9 := hP.sub (ws' := [(o, .inr (2, [.int (nI wd), .ref pa, .ref ca, .int ch.2])), (pa, .inl (cL, ((wd + 63) / 64), .inr (.inl pf))), (ca, .inl (cI, wd, .inl ch.1))]) [0, 1, 2] rfl
    have hD9 := hD.sub (ws' := [(o, .inr (2, [.int (nI wd), .ref pa, .ref ca, .int ch.2])), (pa, .inl (cL, ((wd + 63) / 64), .inr (.inl pf))), (ca, .inl (cI, wd, .inl ch.1))]) [0, 1, 2] (by decide) rfl
    have hK9 := hK
    exact W.iret (v := k) hx hb hr (fun t ht hW => ⟨⟨k, (), rfl, (by have h9 : f_Line_firstRightOf wd ch x i = k := (by exact (hF2.trans ((if_pos c_1).trans (rfl)))); exact h9.symm), ⟨by rw [ht]; exact hP9, va_K.moved hW.alike hK9, hD9⟩⟩, hS.F ht⟩) hS.2.2 d_Line_firstRightOf_26
  · refine lv_aload_n hx hb d_Line_firstRightOf_10 rfl (lv_at hl 1 rfl) ?_
    refine lv_iload_n hx hb d_Line_firstRightOf_11 rfl (lv_at hl 0 rfl) ?_
    have hPc := hP.sub (ws' := [(o, .inr (2, [.int (nI wd), .ref pa, .ref ca, .int ch.2])), (pa, .inl (cL, ((wd + 63) / 64), .inr (.inl pf))), (ca, .inl (cI, wd, .inl ch.1))]) [0, 1, 2] rfl
    have hDc := hD.sub (ws' := [(o, .inr (2, [.int (nI wd), .ref pa, .ref ca, .int ch.2])), (pa, .inl (cL, ((wd + 63) / 64), .inr (.inl pf))), (ca, .inl (cI, wd, .inl ch.1))]) [0, 1, 2] (by decide) rfl
    have hFc := va_free (wc := [(o, .inr (2, [.int (nI wd), .ref pa, .ref ca, .int ch.2])), (pa, .inl (cL, ((wd + 63) / 64), .inr (.inl pf))), (ca, .inl (cI, wd, .inl ch.1))]) hD hS hA [0, 1, 2] rfl
    refine va_calli (va_runV (As := [.int k]) (rest := []) ⟨hx, hb, hml, hown, hw⟩ (c_Line_placeOf l dC dI cI cL o pa ca wd pf ch H.size k (hwd)) (cwV 1 hw (gd_V m_385 m_386 m_387 m_39 m_388) rfl rfl rfl (by decide +kernel) ⟨Nat.le_of_ble_eq_true rfl, Nat.le_of_ble_eq_true rfl⟩) ⟨fun a U g mk q => by obtain ⟨q0, q1, qP, qK, qD⟩ := q; exact ⟨q0, q1, qP, va_K.moved (u := U) (U := U.calling g mk a) (Vm.Alike.refl U.vm) qK, qD⟩, va_recv hK hPc (ci := 2) (q0 := 0) rfl rfl, fun U hU hW => ⟨rfl, by rw [hU], by rw [hU]; exact hPc, va_K.moved hW.alike hK, hDc.weaken (fun _ _ _ _ => trivial)⟩⟩ rfl rfl hl.1 rfl (lv_room (Nat.le_of_ble_eq_true rfl)) d_Line_firstRightOf_12 ⟨Nat.le_of_ble_eq_true rfl, Nat.le_of_ble_eq_true rfl⟩) hS (fun q _ h => hFc q h) hFc (fun r_2 u_2 t H1 locs ht hvm hq2 hB hz1 hk1 hS => ?_)
    obtain ⟨hP1, hK1, hD1⟩ := hB
    rw [ht] at hP1
    obtain ⟨hP, hD⟩ := va_join (wr := []) (w1 := [(o, .inr (2, [.int (nI wd), .ref pa, .ref ca, .int ch.2])), (pa, .inl (cL, ((wd + 63) / 64), .inr (.inl pf))), (ca, .inl (cI, wd, .inl ch.1))]) hP hD [0, 1, 2] [] rfl rfl (by decide) (by decide) hk1 hFc hP1 hD1
    generalize H1 = H at hP hS ht ⊢
    have hP : va_P (dC, dI) classes [(o, .inr (2, [.int (nI wd), .ref pa, .ref ca, .int ch.2])), (pa, .inl (cL, ((wd + 63) / 64), .inr (.inl pf))), (ca, .inl (cI, wd, .inl ch.1))] H := hP
    have hD : va_D A [(o, .inr (2, [.int (nI wd), .ref pa, .ref ca, .int ch.2])), (pa, .inl (cL, ((wd + 63) / 64), .inr (.inl pf))), (ca, .inl (cI, wd, .inl ch.1))] := hD
    have er_2 : f_Line_placeOf wd ch k = r_2 := hq2.symm
    refine lv_iload_n hx hb d_Line_firstRightOf_15 rfl (lv_at hl 2 rfl) ?_
    refine lv_icmp_gt (tgt := 25) hx hb d_Line_firstRightOf_16 (by decide) (fun c_3 => ?_) (fun c_3 => ?_)
    · refine lv_iload_n hx hb d_Line_firstRightOf_25 rfl (lv_at hl 0 rfl) ?_
      have hP9 := hP.sub (ws' := [(o, .inr (2, [.int (nI wd), .ref pa, .ref ca, .int ch.2])), (pa, .inl (cL, ((wd + 63) / 64), .inr (.inl pf))), (ca, .inl (cI, wd, .inl ch.1))]) [0, 1, 2] rfl
      have hD9 := hD.sub (ws' := [(o, .inr (2, [.int (nI wd), .ref pa, .ref ca, .int ch.2])), (pa, .inl (cL, ((wd + 63) / 64), .inr (.inl pf))), (ca, .inl (cI, wd, .inl ch.1))]) [0, 1, 2] (by decide) rfl
      have hK9 := hK
      exact W.iret (v := k) hx hb hr (fun t ht hW => ⟨⟨k, (), rfl, (by have h9 : f_Line_firstRightOf wd ch x i = k := (by subst er_2; exact (hF2.trans ((if_neg c_1).trans ((if_pos c_3).trans (rfl))))); exact h9.symm), ⟨by rw [ht]; exact hP9, va_K.moved hW.alike hK9, hD9⟩⟩, hS.F ht⟩) hS.2.2 d_Line_firstRightOf_26
    · obtain ⟨x_4, ex_4⟩ : ∃ y : Int32, y = k + 1 := ⟨_, rfl⟩
      refine lv_iinc (v := x_4) (lv' := [(3, .int x_4), (0, .ref o), (1, .int x), (2, .int i)]) hx hb d_Line_firstRightOf_19 hl (k := 0) rfl (by rw [ex_4]; rfl) (by decide) rfl (fun ls hl => ?_)
      replace ex_4 := ex_4.symm
      refine lv_goto (tgt := 2) hx hb d_Line_firstRightOf_22 (by decide) ?_
      have hF9 : f_Line_firstRightOf wd ch x i = l_Line_firstRightOf_2 wd ch x i n2 x_4 := (by subst er_2 ex_4; exact (hF2.trans ((if_neg c_1).trans ((if_neg c_3).trans (rfl)))))
      have hI9 : True := (by subst er_2 ex_4; trivial)
      have hP9 := hP.sub (ws' := [(o, .inr (2, [.int (nI wd), .ref pa, .ref ca, .int ch.2])), (pa, .inl (cL, ((wd + 63) / 64), .inr (.inl pf))), (ca, .inl (cI, wd, .inl ch.1))]) [0, 1, 2] rfl
      have hD9 := hD.sub (ws' := [(o, .inr (2, [.int (nI wd), .ref pa, .ref ca, .int ch.2])), (pa, .inl (cL, ((wd + 63) / 64), .inr (.inl pf))), (ca, .inl (cI, wd, .inl ch.1))]) [0, 1, 2] (by decide) rfl
      have hl9 := lv_sub (l' := [(3, .int x_4), (0, .ref o), (1, .int x), (2, .int i)]) hl [0, 1, 2, 3] rfl
      have hm9 : (Int32.toInt ch.2 - Int32.toInt x_4).toNat < (Int32.toInt ch.2 - Int32.toInt k).toNat := (by subst er_2 ex_4; exact mu_b c_1)
      exact ih2 x_4 _ _ _ ⟨Nat.lt_of_lt_of_le hm9 (Nat.le_of_lt_succ hmu2), hF9, hI9, hP9, hD9, hS, hl9⟩
def l_Line_addChanges_9 (wd : Nat) (ch : (Nat → Int32) × Int32) (fr : Int32) (cg : Int64) : Nat → (Nat → Int32) → Int32 → Int64 → Int32 → ((Nat → Int32) × Int32)
  | 0, _, _, _, _ => default
  | n9 + 1, g, k, mo, nn => if nn ≤ 0 then ((g, k)) else (let r_3 := f_Long_numberOfLeadingZeros mo; if (nI wd) ≤ (fr + r_3) then (let x_5 := mo &&& (((1 : Int64) <<< ((63 - r_3).toInt64 &&& 63)) ^^^ (-1)); let x_6 := nn + (-1); l_Line_addChanges_9 wd ch fr cg n9 g k x_5 x_6) else (if (nI wd) ≤ k then (let x_8 := mo &&& (((1 : Int64) <<< ((63 - r_3).toInt64 &&& 63)) ^^^ (-1)); let x_9 := nn + (-1); l_Line_addChanges_9 wd ch fr cg n9 g k x_8 x_9) else (let x_10 := fr + r_3; let g_11 := upd g k.toNatClampNeg x_10; let x_12 := k + 1; let x_13 := mo &&& (((1 : Int64) <<< ((63 - r_3).toInt64 &&& 63)) ^^^ (-1)); let x_14 := nn + (-1); l_Line_addChanges_9 wd ch fr cg n9 g_11 x_12 x_13 x_14)))
def f_Line_addChanges (wd : Nat) (ch : (Nat → Int32) × Int32) (fr : Int32) (cg : Int64) : ((Nat → Int32) × Int32) := let r_1 := f_Long_bitCount cg; l_Line_addChanges_9 wd ch fr cg ((Int32.toInt r_1).toNat + 1) ch.1 ch.2 cg r_1
set_option maxHeartbeats 4000000 in
set_option maxRecDepth 100000 in
theorem c_Line_addChanges (l : Launch) (dC : Nat → ClassId) (dI : Nat → Nat → Nat) (cI cL : ClassId) (o : Nat) (pa : Nat) (ca : Nat) (wd : Nat) (pf : Nat → Int64) (sz : Nat) (ch : (Nat → Int32) × Int32) (fr : Int32) (cg : Int64) (hwd : wd ≤ 10000) (hlc : ¬ ch.2 < 0) : Met l y_Line_addChanges w_Line_addChanges ({ frames := 2, cells := 0, slots := 0, locals := 43 }) (va_Pc [.ref o, .int fr, .long cg] (fun U => U.heap.size = sz ∧ va_P (dC, dI) classes [(o, .inr (2, [.int (nI wd), .ref pa, .ref ca, .int ch.2])), (pa, .inl (cL, ((wd + 63) / 64), .inr (.inl pf))), (ca, .inl (cI, wd, .inl ch.1))] U.heap ∧ va_K (dC, dI) classes [(cI, .int), (cL, .long)] U ∧ va_D (fun _ => True) [(o, .inr (2, [.int (nI wd), .ref pa, .ref ca, .int ch.2])), (pa, .inl (cL, ((wd + 63) / 64), .inr (.inl pf))), (ca, .inl (cI, wd, .inl ch.1))])) (va_Qv (fun (u : ((Nat → Int32) × Int32)) => u = f_Line_addChanges wd ch fr cg) (fun (u : ((Nat → Int32) × Int32)) (t : State) => va_P (dC, dI) classes [(o, .inr (2, [.int (nI wd), .ref pa, .ref ca, .int u.2])), (pa, .inl (cL, ((wd + 63) / 64), .inr (.inl pf))), (ca, .inl (cI, wd, .inl u.1))] t.heap ∧ va_K (dC, dI) classes [(cI, .int), (cL, .long)] t ∧ va_D (va_A [(o, .inr (2, [.int (nI wd), .ref pa, .ref ca, .int ch.2])), (pa, .inl (cL, ((wd + 63) / 64), .inr (.inl pf))), (ca, .inl (cI, wd, .inl ch.1))] sz) [(o, .inr (2, [.int (nI wd), .ref pa, .ref ca, .int u.2])), (pa, .inl (cL, ((wd + 63) / 64), .inr (.inl pf))), (ca, .inl (cI, wd, .inl u.1))]) (va_A [(o, .inr (2, [.int (nI wd), .ref pa, .ref ca, .int ch.2])), (pa, .inl (cL, ((wd + 63) / 64), .inr (.inl pf))), (ca, .inl (cI, wd, .inl ch.1))] sz)) 0 0 (va_A [(o, .inr (2, [.int (nI wd), .ref pa, .ref ca, .int ch.2])), (pa, .inl (cL, ((wd + 63) / 64), .inr (.inl pf))), (ca, .inl (cI, wd, .inl ch.1))] sz) := by
  refine Met.ofW (cc := b_Line_addChanges) (maxL := 8) (ret := none) (by decide) rfl ?_
  intro p e s m args below meth c s₁ B hml hv
  obtain ⟨rfl, hsz, hP, hK, hD0⟩ := hv
  have hx := B.exec
  have hb := B.bytes
  have hr := B.returns
  have hts := atoms_spec (ws := w_Line_addChanges) B.pre
  have hw : ∀ w ∈ WA, w.before _ s = true := fun w h => hts w (List.mem_cons_of_mem _ h)
  have hown : s.vm.findClass R_Line = some m.cls := findClass_of_methodNamed B.named
  have hlocks := B.notSynchronized
  subst hsz
  have hD := hD0.self (sz := s.heap.size)
  generalize hAe : va_A [(o, .inr (2, [.int (nI wd), .ref pa, .ref ca, .int ch.2])), (pa, .inl (cL, ((wd + 63) / 64), .inr (.inl pf))), (ca, .inl (cI, wd, .inl ch.1))] s.heap.size = A at hD ⊢
  have hA : ∀ q : Nat, s.heap.size ≤ q → A q := fun q h => by rw [← hAe]; exact Or.inr h
  have hS : va_S A s.heap s.heap [] := va_S.rf
  have hP : va_P (dC, dI) classes [(o, .inr (2, [.int (nI wd), .ref pa, .ref ca, .int ch.2])), (pa, .inl (cL, ((wd + 63) / 64), .inr (.inl pf))), (ca, .inl (cI, wd, .inl ch.1))] s.heap := hP
  have hl := lv_entry ([.ref o, .int fr, .long cg]) (n := 8) (Nat.le_of_ble_eq_true rfl)
  rw [lg_entry_eq]
  generalize (lg_sl ([.ref o, .int fr, .long cg]) ++ List.replicate (8 - (lg_sl ([.ref o, .int fr, .long cg])).length) Slot.unset).toArray = ls at hl ⊢
  have hl : lv_has ls 8 [(0, .ref o), (1, .int fr), (2, .long cg)] := hl
  refine lv_lload_n hx hb d_Line_addChanges_0 rfl (lv_at hl 2 rfl) ?_
  refine lv_lstore (lv' := [(4, .long cg), (0, .ref o), (1, .int fr), (2, .long cg)]) hx hb d_Line_addChanges_1 hl (by decide) rfl (fun ls hl => ?_)
  refine lv_lload_n hx hb d_Line_addChanges_3 rfl (lv_at hl 3 rfl) ?_
  have hPc := hP.sub (ws' := []) [] rfl
  have hDc := hD.sub (ws' := []) [] (by decide) rfl
  have hFc := va_free (wc := []) hD hS hA [] rfl
  refine va_calli (va_runS (As := [.long cg]) (rest := []) ⟨hx, hb, hml, hown, hw⟩ (c_Long_bitCount l dC dI cI cL s.heap.size cg) (va_cwS 1 hw (gd_S m_444 m_445 m_46 m_446) rfl rfl rfl (by decide +kernel) ⟨Nat.le_of_ble_eq_true rfl, Nat.le_of_ble_eq_true rfl⟩) ⟨fun a U g mk q => by obtain ⟨q0, q1, qP, qK, qD⟩ := q; exact ⟨q0, q1, qP, va_K.moved (u := U) (U := U.calling g mk a) (Vm.Alike.refl U.vm) qK, qD⟩, fun U hU hW => ⟨rfl, by rw [hU], by rw [hU]; exact hPc, va_K.moved hW.alike hK, hDc.weaken (fun _ _ _ _ => trivial)⟩⟩ rfl rfl hl.1 rfl (lv_room (Nat.le_of_ble_eq_true rfl)) d_Line_addChanges_4 ⟨Nat.le_of_ble_eq_true rfl, Nat.le_of_ble_eq_true rfl⟩) hS (fun q _ h => hFc q h) hFc (fun r_1 u_1 t H1 locs ht hvm hq1 hB hz1 hk1 hS => ?_)
  obtain ⟨hP1, hK1, hD1⟩ := hB
  rw [ht] at hP1
  obtain ⟨hP, hD⟩ := va_join (wr := [(o, .inr (2, [.int (nI wd), .ref pa, .ref ca, .int ch.2])), (pa, .inl (cL, ((wd + 63) / 64), .inr (.inl pf))), (ca, .inl (cI, wd, .inl ch.1))]) (w1 := []) hP hD [] [0, 1, 2] rfl rfl (by decide) (by decide) hk1 hFc hP1 hD1
  generalize H1 = H at hP hS ht ⊢
  have hP : va_P (dC, dI) classes [(o, .inr (2, [.int (nI wd), .ref pa, .ref ca, .int ch.2])), (pa, .inl (cL, ((wd + 63) / 64), .inr (.inl pf))), (ca, .inl (cI, wd, .inl ch.1))] H := hP
  have hD : va_D A [(o, .inr (2, [.int (nI wd), .ref pa, .ref ca, .int ch.2])), (pa, .inl (cL, ((wd + 63) / 64), .inr (.inl pf))), (ca, .inl (cI, wd, .inl ch.1))] := hD
  have er_1 : f_Long_bitCount cg = r_1 := hq1.symm
  refine lv_istore (lv' := [(6, .int r_1), (4, .long cg), (0, .ref o), (1, .int fr), (2, .long cg)]) hx hb d_Line_addChanges_7 hl (by decide) rfl (fun ls hl => ?_)
  have hF9 : f_Line_addChanges wd ch fr cg = l_Line_addChanges_9 wd ch fr cg ((Int32.toInt r_1).toNat + 1) ch.1 ch.2 cg r_1 := (by subst er_1; exact (rfl))
  have hI9 : ¬ ch.2 < 0 := (by subst er_1; exact hlc)
  have hP9 := hP.sub (ws' := [(o, .inr (2, [.int (nI wd), .ref pa, .ref ca, .int ch.2])), (pa, .inl (cL, ((wd + 63) / 64), .inr (.inl pf))), (ca, .inl (cI, wd, .inl ch.1))]) [0, 1, 2] rfl
  have hD9 := hD.sub (ws' := [(o, .inr (2, [.int (nI wd), .ref pa, .ref ca, .int ch.2])), (pa, .inl (cL, ((wd + 63) / 64), .inr (.inl pf))), (ca, .inl (cI, wd, .inl ch.1))]) [0, 1, 2] (by decide) rfl
  have hl9 := lv_sub (l' := [(6, .int r_1), (4, .long cg), (0, .ref o), (1, .int fr)]) hl [0, 1, 2, 3] rfl
  refine lp_n (pc := 9) (σ := (Nat → Int32) × Int32 × Int64 × Int32) (I := fun n v H locs ls => (Int32.toInt v.2.2.2).toNat < n ∧ f_Line_addChanges wd ch fr cg = l_Line_addChanges_9 wd ch fr cg n v.1 v.2.1 v.2.2.1 v.2.2.2 ∧ (¬ v.2.1 < 0) ∧ va_P (dC, dI) classes [(o, .inr (2, [.int (nI wd), .ref pa, .ref ca, .int v.2.1])), (pa, .inl (cL, ((wd + 63) / 64), .inr (.inl pf))), (ca, .inl (cI, wd, .inl v.1))] H ∧ va_D A [(o, .inr (2, [.int (nI wd), .ref pa, .ref ca, .int v.2.1])), (pa, .inl (cL, ((wd + 63) / 64), .inr (.inl pf))), (ca, .inl (cI, wd, .inl v.1))] ∧ va_S A s.heap H locs ∧ lv_has ls 8 [(6, .int v.2.2.2), (4, .long v.2.2.1), (0, .ref o), (1, .int fr)]) (fun v H locs ls h => absurd h.1 (Nat.not_lt_zero _)) ?_ ((Int32.toInt r_1).toNat + 1) (ch.1, ch.2, cg, r_1) _ _ _ ⟨Nat.lt_succ_self _, hF9, hI9, hP9, hD9, hS, hl9⟩
  intro n9 ih9 v H locs ls hI
  obtain ⟨g, k, mo, nn⟩ := v
  obtain ⟨hmu9, hF9, hinv, hP, hD, hS, hl⟩ := hI
  have hmu9 : (Int32.toInt nn).toNat < n9 + 1 := hmu9
  have hF9 : f_Line_addChanges wd ch fr cg = l_Line_addChanges_9 wd ch fr cg (n9 + 1) g k mo nn := hF9
  have hinv : ¬ k < 0 := hinv
  have hP : va_P (dC, dI) classes [(o, .inr (2, [.int (nI wd), .ref pa, .ref ca, .int k])), (pa, .inl (cL, ((wd + 63) / 64), .inr (.inl pf))), (ca, .inl (cI, wd, .inl g))] H := hP
  have hD : va_D A [(o, .inr (2, [.int (nI wd), .ref pa, .ref ca, .int k])), (pa, .inl (cL, ((wd + 63) / 64), .inr (.inl pf))), (ca, .inl (cI, wd, .inl g))] := hD
  have hl : lv_has ls 8 [(6, .int nn), (4, .long mo), (0, .ref o), (1, .int fr)] := hl
  refine lv_iload hx hb d_Line_addChanges_9 (lv_at hl 0 rfl) ?_
  refine lv_if_le (tgt := 89) hx hb d_Line_addChanges_11 (by decide) (fun c_2 => ?_) (fun c_2 => ?_)
  · have hP9 := hP.sub (ws' := [(o, .inr (2, [.int (nI wd), .ref pa, .ref ca, .int k])), (pa, .inl (cL, ((wd + 63) / 64), .inr (.inl pf))), (ca, .inl (cI, wd, .inl g))]) [0, 1, 2] rfl
    have hD9 := hD.sub (ws' := [(o, .inr (2, [.int (nI wd), .ref pa, .ref ca, .int k])), (pa, .inl (cL, ((wd + 63) / 64), .inr (.inl pf))), (ca, .inl (cI, wd, .inl g))]) [0, 1, 2] (by decide) rfl
    have hK9 := hK
    exact W.vret hx hb hr (fun t ht hW => ⟨⟨(g, k), rfl, (by have h9 : f_Line_addChanges wd ch fr cg = (g, k) := (by exact (hF9.trans ((if_pos c_2).trans (rfl)))); exact h9.symm), ⟨by rw [ht]; exact hP9, va_K.moved hW.alike hK9, hD9⟩⟩, hS.F ht⟩) hS.2.2 d_Line_addChanges_89
  · refine lv_lload hx hb d_Line_addChanges_14 (lv_at hl 1 rfl) ?_
    have hPc := hP.sub (ws' := []) [] rfl
    have hDc := hD.sub (ws' := []) [] (by decide) rfl
    have hFc := va_free (wc := []) hD hS hA [] rfl
    refine va_calli (va_runS (As := [.long mo]) (rest := []) ⟨hx, hb, hml, hown, hw⟩ (c_Long_numberOfLeadingZeros l dC dI cI cL H.size mo) (va_cwS 1 hw (gd_S m_450 m_451 m_46 m_452) rfl rfl rfl (by decide +kernel) ⟨Nat.le_of_ble_eq_true rfl, Nat.le_of_ble_eq_true rfl⟩) ⟨fun a U g mk q => by obtain ⟨q0, q1, qP, qK, qD⟩ := q; exact ⟨q0, q1, qP, va_K.moved (u := U) (U := U.calling g mk a) (Vm.Alike.refl U.vm) qK, qD⟩, fun U hU hW => ⟨rfl, by rw [hU], by rw [hU]; exact hPc, va_K.moved hW.alike hK, hDc.weaken (fun _ _ _ _ => trivial)⟩⟩ rfl rfl hl.1 rfl (lv_room (Nat.le_of_ble_eq_true rfl)) d_Line_addChanges_16 ⟨Nat.le_of_ble_eq_true rfl, Nat.le_of_ble_eq_true rfl⟩) hS (fun q _ h => hFc q h) hFc (fun r_3 u_3 t H1 locs ht hvm hq3 hB hz1 hk1 hS => ?_)
    obtain ⟨hP1, hK1, hD1⟩ := hB
    rw [ht] at hP1
    obtain ⟨hP, hD⟩ := va_join (wr := [(o, .inr (2, [.int (nI wd), .ref pa, .ref ca, .int k])), (pa, .inl (cL, ((wd + 63) / 64), .inr (.inl pf))), (ca, .inl (cI, wd, .inl g))]) (w1 := []) hP hD [] [0, 1, 2] rfl rfl (by decide) (by decide) hk1 hFc hP1 hD1
    generalize H1 = H at hP hS ht ⊢
    have hP : va_P (dC, dI) classes [(o, .inr (2, [.int (nI wd), .ref pa, .ref ca, .int k])), (pa, .inl (cL, ((wd + 63) / 64), .inr (.inl pf))), (ca, .inl (cI, wd, .inl g))] H := hP
    have hD : va_D A [(o, .inr (2, [.int (nI wd), .ref pa, .ref ca, .int k])), (pa, .inl (cL, ((wd + 63) / 64), .inr (.inl pf))), (ca, .inl (cI, wd, .inl g))] := hD
    have er_3 : f_Long_numberOfLeadingZeros mo = r_3 := hq3.symm
    refine lv_istore (lv' := [(7, .int r_3), (6, .int nn), (4, .long mo), (0, .ref o), (1, .int fr)]) hx hb d_Line_addChanges_19 hl (by decide) rfl (fun ls hl => ?_)
    refine lv_iload_n hx hb d_Line_addChanges_21 rfl (lv_at hl 4 rfl) ?_
    refine lv_iload hx hb d_Line_addChanges_22 (lv_at hl 0 rfl) ?_
    refine lv_iadd hx hb d_Line_addChanges_24 ?_
    refine lv_aload_n hx hb d_Line_addChanges_25 rfl (lv_at hl 3 rfl) ?_
    refine va_get (D := (dC, dI)) (ci := 2) (v := .int (nI wd)) (C := R_Line) (T := F_Line) (N := 4) hx hb hw i_Line hown hK hP 0 rfl rfl 0 (by decide) (hw _ m_97) (fun _ h9 => h9) rfl d_Line_addChanges_26 ?_
    refine lv_icmp_ge (tgt := 67) hx hb d_Line_addChanges_29 (by decide) (fun c_4 => ?_) (fun c_4 => ?_)
    · refine lv_lload hx hb d_Line_addChanges_67 (lv_at hl 2 rfl) ?_
      refine lv_lconst (v := 1) hx hb d_Line_addChanges_69 (by decide) ?_
      refine lv_bipush (v := 63) hx hb d_Line_addChanges_70 (by decide) ?_
      refine lv_iload hx hb d_Line_addChanges_72 (lv_at hl 0 rfl) ?_
      refine lv_isub hx hb d_Line_addChanges_74 ?_
      refine lv_lshl hx hb d_Line_addChanges_75 rfl ?_
      refine lv_ldc2 (v := (-1)) hx hb hown (hw _ m_313) d_Line_addChanges_76 ?_
      refine lv_lxor hx hb d_Line_addChanges_79 ?_
      refine lv_land hx hb d_Line_addChanges_80 ?_
      refine lv_topl (fun x_5 ex_5 => ?_)
      replace ex_5 := ex_5.symm
      refine lv_lstore (lv' := [(4, .long x_5), (7, .int r_3), (6, .int nn), (0, .ref o), (1, .int fr)]) hx hb d_Line_addChanges_81 hl (by decide) rfl (fun ls hl => ?_)
      obtain ⟨x_6, ex_6⟩ : ∃ y : Int32, y = nn + (-1) := ⟨_, rfl⟩
      refine lv_iinc (v := x_6) (lv' := [(6, .int x_6), (4, .long x_5), (7, .int r_3), (0, .ref o), (1, .int fr)]) hx hb d_Line_addChanges_83 hl (k := 2) rfl (by rw [ex_6]; rfl) (by decide) rfl (fun ls hl => ?_)
      replace ex_6 := ex_6.symm
      refine lv_goto (tgt := 9) hx hb d_Line_addChanges_86 (by decide) ?_
      have hF9 : f_Line_addChanges wd ch fr cg = l_Line_addChanges_9 wd ch fr cg n9 g k x_5 x_6 := (by subst er_3 ex_5 ex_6; exact (hF9.trans ((if_neg c_2).trans ((if_pos c_4).trans (rfl)))))
      have hI9 : ¬ k < 0 := (by subst er_3 ex_5 ex_6; exact hinv)
      have hP9 := hP.sub (ws' := [(o, .inr (2, [.int (nI wd), .ref pa, .ref ca, .int k])), (pa, .inl (cL, ((wd + 63) / 64), .inr (.inl pf))), (ca, .inl (cI, wd, .inl g))]) [0, 1, 2] rfl
      have hD9 := hD.sub (ws' := [(o, .inr (2, [.int (nI wd), .ref pa, .ref ca, .int k])), (pa, .inl (cL, ((wd + 63) / 64), .inr (.inl pf))), (ca, .inl (cI, wd, .inl g))]) [0, 1, 2] (by decide) rfl
      have hl9 := lv_sub (l' := [(6, .int x_6), (4, .long x_5), (0, .ref o), (1, .int fr)]) hl [0, 1, 3, 4] rfl
      have hm9 : (Int32.toInt x_6).toNat < (Int32.toInt nn).toNat := (by subst er_3 ex_5 ex_6; exact mu_d c_2)
      exact ih9 (g, k, x_5, x_6) _ _ _ ⟨Nat.lt_of_lt_of_le hm9 (Nat.le_of_lt_succ hmu9), hF9, hI9, hP9, hD9, hS, hl9⟩
    · refine lv_aload_n hx hb d_Line_addChanges_32 rfl (lv_at hl 3 rfl) ?_
      refine va_get (D := (dC, dI)) (ci := 2) (v := .int k) (C := R_Line) (T := F_Line) (N := 4) hx hb hw i_Line hown hK hP 0 rfl rfl 3 (by decide) (hw _ m_100) (fun _ h9 => h9) rfl d_Line_addChanges_33 ?_
      refine lv_aload_n hx hb d_Line_addChanges_36 rfl (lv_at hl 3 rfl) ?_
      refine va_get (D := (dC, dI)) (ci := 2) (v := .ref ca) (C := R_Line) (T := F_Line) (N := 4) hx hb hw i_Line hown hK hP 0 rfl rfl 2 (by decide) (hw _ m_99) (fun _ h9 => h9) rfl d_Line_addChanges_37 ?_
      refine va_alen (v := nI wd) hx hb hK hP 2 0 rfl rfl rfl d_Line_addChanges_40 ?_
      refine lv_icmp_ge (tgt := 67) hx hb d_Line_addChanges_41 (by decide) (fun c_7 => ?_) (fun c_7 => ?_)
      · refine lv_lload hx hb d_Line_addChanges_67 (lv_at hl 2 rfl) ?_
        refine lv_lconst (v := 1) hx hb d_Line_addChanges_69 (by decide) ?_
        refine lv_bipush (v := 63) hx hb d_Line_addChanges_70 (by decide) ?_
        refine lv_iload hx hb d_Line_addChanges_72 (lv_at hl 0 rfl) ?_
        refine lv_isub hx hb d_Line_addChanges_74 ?_
        refine lv_lshl hx hb d_Line_addChanges_75 rfl ?_
        refine lv_ldc2 (v := (-1)) hx hb hown (hw _ m_313) d_Line_addChanges_76 ?_
        refine lv_lxor hx hb d_Line_addChanges_79 ?_
        refine lv_land hx hb d_Line_addChanges_80 ?_
        refine lv_topl (fun x_8 ex_8 => ?_)
        replace ex_8 := ex_8.symm
        refine lv_lstore (lv' := [(4, .long x_8), (7, .int r_3), (6, .int nn), (0, .ref o), (1, .int fr)]) hx hb d_Line_addChanges_81 hl (by decide) rfl (fun ls hl => ?_)
        obtain ⟨x_9, ex_9⟩ : ∃ y : Int32, y = nn + (-1) := ⟨_, rfl⟩
        refine lv_iinc (v := x_9) (lv' := [(6, .int x_9), (4, .long x_8), (7, .int r_3), (0, .ref o), (1, .int fr)]) hx hb d_Line_addChanges_83 hl (k := 2) rfl (by rw [ex_9]; rfl) (by decide) rfl (fun ls hl => ?_)
        replace ex_9 := ex_9.symm
        refine lv_goto (tgt := 9) hx hb d_Line_addChanges_86 (by decide) ?_
        have hF9 : f_Line_addChanges wd ch fr cg = l_Line_addChanges_9 wd ch fr cg n9 g k x_8 x_9 := (by subst er_3 ex_8 ex_9; exact (hF9.trans ((if_neg c_2).trans ((if_neg c_4).trans ((if_pos c_7).trans (rfl))))))
        have hI9 : ¬ k < 0 := (by subst er_3 ex_8 ex_9; exact hinv)
        have hP9 := hP.sub (ws' := [(o, .inr (2, [.int (nI wd), .ref pa, .ref ca, .int k])), (pa, .inl (cL, ((wd + 63) / 64), .inr (.inl pf))), (ca, .inl (cI, wd, .inl g))]) [0, 1, 2] rfl
        have hD9 := hD.sub (ws' := [(o, .inr (2, [.int (nI wd), .ref pa, .ref ca, .int k])), (pa, .inl (cL, ((wd + 63) / 64), .inr (.inl pf))), (ca, .inl (cI, wd, .inl g))]) [0, 1, 2] (by decide) rfl
        have hl9 := lv_sub (l' := [(6, .int x_9), (4, .long x_8), (0, .ref o), (1, .int fr)]) hl [0, 1, 3, 4] rfl
        have hm9 : (Int32.toInt x_9).toNat < (Int32.toInt nn).toNat := (by subst er_3 ex_8 ex_9; exact mu_d c_2)
        exact ih9 (g, k, x_8, x_9) _ _ _ ⟨Nat.lt_of_lt_of_le hm9 (Nat.le_of_lt_succ hmu9), hF9, hI9, hP9, hD9, hS, hl9⟩
      · refine lv_aload_n hx hb d_Line_addChanges_44 rfl (lv_at hl 3 rfl) ?_
        refine va_get (D := (dC, dI)) (ci := 2) (v := .ref ca) (C := R_Line) (T := F_Line) (N := 4) hx hb hw i_Line hown hK hP 0 rfl rfl 2 (by decide) (hw _ m_99) (fun _ h9 => h9) rfl d_Line_addChanges_45 ?_
        refine lv_aload_n hx hb d_Line_addChanges_48 rfl (lv_at hl 3 rfl) ?_
        refine va_get (D := (dC, dI)) (ci := 2) (v := .int k) (C := R_Line) (T := F_Line) (N := 4) hx hb hw i_Line hown hK hP 0 rfl rfl 3 (by decide) (hw _ m_100) (fun _ h9 => h9) rfl d_Line_addChanges_49 ?_
        refine lv_iload_n hx hb d_Line_addChanges_52 rfl (lv_at hl 4 rfl) ?_
        refine lv_iload hx hb d_Line_addChanges_53 (lv_at hl 0 rfl) ?_
        refine lv_iadd hx hb d_Line_addChanges_55 ?_
        refine lv_topi (fun x_10 ex_10 => ?_)
        replace ex_10 := ex_10.symm
        refine va_iast hx hb hK hP hD hS 2 0 rfl rfl (ix_b (by omega) hinv c_7) d_Line_addChanges_56 (fun H locs hP hD hS => ?_)
        obtain ⟨g_11, eg_11⟩ : ∃ y : Nat → Int32, y = upd g k.toNatClampNeg x_10 := ⟨_, rfl⟩
        rw [← eg_11] at hP hD
        replace eg_11 := eg_11.symm
        have hP : va_P (dC, dI) classes [(o, .inr (2, [.int (nI wd), .ref pa, .ref ca, .int k])), (pa, .inl (cL, ((wd + 63) / 64), .inr (.inl pf))), (ca, .inl (cI, wd, .inl g_11))] H := hP
        have hD : va_D A [(o, .inr (2, [.int (nI wd), .ref pa, .ref ca, .int k])), (pa, .inl (cL, ((wd + 63) / 64), .inr (.inl pf))), (ca, .inl (cI, wd, .inl g_11))] := hD
        refine lv_aload_n hx hb d_Line_addChanges_57 rfl (lv_at hl 3 rfl) ?_
        refine lv_dup hx hb d_Line_addChanges_58 rfl ?_
        refine va_get (D := (dC, dI)) (ci := 2) (v := .int k) (C := R_Line) (T := F_Line) (N := 4) hx hb hw i_Line hown hK hP 0 rfl rfl 3 (by decide) (hw _ m_100) (fun _ h9 => h9) rfl d_Line_addChanges_59 ?_
        refine lv_iconst (v := 1) hx hb d_Line_addChanges_62 (by decide) ?_
        refine lv_iadd hx hb d_Line_addChanges_63 ?_
        refine lv_topi (fun x_12 ex_12 => ?_)
        replace ex_12 := ex_12.symm
        refine va_put (D := (dC, dI)) (ci := 2) (v := .int x_12) (ty := .int) (C := R_Line) (T := F_Line) (N := 4) hx hb hw i_Line t_Line t_Line_ok n_Line hown hK hP hD hS 0 rfl rfl 3 (by decide) (hw _ m_100) (fun _ h9 => h9) rfl (by decide +kernel) rfl rfl (Nat.le_of_ble_eq_true rfl) d_Line_addChanges_64 (fun H locs hP hD hS => ?_)
        have hP : va_P (dC, dI) classes [(o, .inr (2, [.int (nI wd), .ref pa, .ref ca, .int x_12])), (pa, .inl (cL, ((wd + 63) / 64), .inr (.inl pf))), (ca, .inl (cI, wd, .inl g_11))] H := hP
        have hD : va_D A [(o, .inr (2, [.int (nI wd), .ref pa, .ref ca, .int x_12])), (pa, .inl (cL, ((wd + 63) / 64), .inr (.inl pf))), (ca, .inl (cI, wd, .inl g_11))] := hD
        refine lv_lload hx hb d_Line_addChanges_67 (lv_at hl 2 rfl) ?_
        refine lv_lconst (v := 1) hx hb d_Line_addChanges_69 (by decide) ?_
        refine lv_bipush (v := 63) hx hb d_Line_addChanges_70 (by decide) ?_
        refine lv_iload hx hb d_Line_addChanges_72 (lv_at hl 0 rfl) ?_
        refine lv_isub hx hb d_Line_addChanges_74 ?_
        refine lv_lshl hx hb d_Line_addChanges_75 rfl ?_
        refine lv_ldc2 (v := (-1)) hx hb hown (hw _ m_313) d_Line_addChanges_76 ?_
        refine lv_lxor hx hb d_Line_addChanges_79 ?_
        refine lv_land hx hb d_Line_addChanges_80 ?_
        refine lv_topl (fun x_13 ex_13 => ?_)
        replace ex_13 := ex_13.symm
        refine lv_lstore (lv' := [(4, .long x_13), (7, .int r_3), (6, .int nn), (0, .ref o), (1, .int fr)]) hx hb d_Line_addChanges_81 hl (by decide) rfl (fun ls hl => ?_)
        obtain ⟨x_14, ex_14⟩ : ∃ y : Int32, y = nn + (-1) := ⟨_, rfl⟩
        refine lv_iinc (v := x_14) (lv' := [(6, .int x_14), (4, .long x_13), (7, .int r_3), (0, .ref o), (1, .int fr)]) hx hb d_Line_addChanges_83 hl (k := 2) rfl (by rw [ex_14]; rfl) (by decide) rfl (fun ls hl => ?_)
        replace ex_14 := ex_14.symm
        refine lv_goto (tgt := 9) hx hb d_Line_addChanges_86 (by decide) ?_
        have hF9 : f_Line_addChanges wd ch fr cg = l_Line_addChanges_9 wd ch fr cg n9 g_11 x_12 x_13 x_14 := (by subst er_3 ex_10 eg_11 ex_12 ex_13 ex_14; exact (hF9.trans ((if_neg c_2).trans ((if_neg c_4).trans ((if_neg c_7).trans (rfl))))))
        have hI9 : ¬ x_12 < 0 := (by subst er_3 ex_10 eg_11 ex_12 ex_13 ex_14; exact nn_s (n := wd) (by omega) hinv c_7)
        have hP9 := hP.sub (ws' := [(o, .inr (2, [.int (nI wd), .ref pa, .ref ca, .int x_12])), (pa, .inl (cL, ((wd + 63) / 64), .inr (.inl pf))), (ca, .inl (cI, wd, .inl g_11))]) [0, 1, 2] rfl
        have hD9 := hD.sub (ws' := [(o, .inr (2, [.int (nI wd), .ref pa, .ref ca, .int x_12])), (pa, .inl (cL, ((wd + 63) / 64), .inr (.inl pf))), (ca, .inl (cI, wd, .inl g_11))]) [0, 1, 2] (by decide) rfl
        have hl9 := lv_sub (l' := [(6, .int x_14), (4, .long x_13), (0, .ref o), (1, .int fr)]) hl [0, 1, 3, 4] rfl
        have hm9 : (Int32.toInt x_14).toNat < (Int32.toInt nn).toNat := (by subst er_3 ex_10 eg_11 ex_12 ex_13 ex_14; exact mu_d c_2)
        exact ih9 (g_11, x_12, x_13, x_14) _ _ _ ⟨Nat.lt_of_lt_of_le hm9 (Nat.le_of_lt_succ hmu9), hF9, hI9, hP9, hD9, hS, hl9⟩
theorem addChanges_nn_l {wd : Nat} (hwd : wd ≤ 10000) (ch : (Nat → Int32) × Int32) (fr : Int32) (cg : Int64) : ∀ (n : Nat) (g : Nat → Int32) (k : Int32) (mo : Int64) (nn : Int32), ¬ k < 0 → ¬ (l_Line_addChanges_9 wd ch fr cg n g k mo nn).2 < 0 := by
  intro n
  induction n with
  | zero => intro g k mo nn hk; exact (by decide : ¬ (default : Int32) < 0)
  | succ n ih =>
    intro g k mo nn hk
    simp only [l_Line_addChanges_9]
    split
    · exact hk
    · split
      · exact ih _ _ _ _ hk
      · split
        · exact ih _ _ _ _ hk
        · rename_i h
          exact ih _ _ _ _ (nn_s (by omega) hk h)
theorem addChanges_nn {wd : Nat} (hwd : wd ≤ 10000) {ch : (Nat → Int32) × Int32} {fr : Int32} {cg : Int64} (h : ¬ ch.2 < 0) : ¬ (f_Line_addChanges wd ch fr cg).2 < 0 := addChanges_nn_l hwd ch fr cg _ _ _ _ _ h
def l_Line_findChanges_9 (wd : Nat) (pf : Nat → Int64) (ch : (Nat → Int32) × Int32) : Nat → (Nat → Int32) → Int32 → Int64 → Int32 → ((Nat → Int32) × Int32)
  | 0, _, _, _, _ => default
  | n9 + 1, g, q, lf, k => if (nI ((wd + 63) / 64)) ≤ k then ((g, q)) else (let x_2 := pf k.toNatClampNeg; let u_3 := f_Line_addChanges wd (g, q) (64 * k) (x_2 ^^^ (((x_2.toUInt64 >>> ((1 : Int32).toInt64.toUInt64 &&& Int64.toUInt64 63)).toInt64) ||| (lf <<< ((63 : Int32).toInt64 &&& 63)))); let x_4 := x_2 &&& 1; let x_5 := k + 1; l_Line_findChanges_9 wd pf ch n9 u_3.1 u_3.2 x_4 x_5)
def f_Line_findChanges (wd : Nat) (pf : Nat → Int64) (ch : (Nat → Int32) × Int32) : ((Nat → Int32) × Int32) := l_Line_findChanges_9 wd pf ch (((nI ((wd + 63) / 64)).toInt - Int32.toInt (0 : Int32)).toNat + 1) ch.1 (0 : Int32) (0 : Int64) (0 : Int32)
set_option maxHeartbeats 4000000 in
set_option maxRecDepth 100000 in
theorem c_Line_findChanges (l : Launch) (dC : Nat → ClassId) (dI : Nat → Nat → Nat) (cI cL : ClassId) (o : Nat) (pa : Nat) (ca : Nat) (wd : Nat) (pf : Nat → Int64) (sz : Nat) (ch : (Nat → Int32) × Int32)  (hwd : wd ≤ 10000) : Met l y_Line_findChanges w_Line_findChanges ({ frames := 3, cells := 0, slots := 0, locals := 70 }) (va_Pc [.ref o] (fun U => U.heap.size = sz ∧ va_P (dC, dI) classes [(o, .inr (2, [.int (nI wd), .ref pa, .ref ca, .int ch.2])), (pa, .inl (cL, ((wd + 63) / 64), .inr (.inl pf))), (ca, .inl (cI, wd, .inl ch.1))] U.heap ∧ va_K (dC, dI) classes [(cI, .int), (cL, .long)] U ∧ va_D (fun _ => True) [(o, .inr (2, [.int (nI wd), .ref pa, .ref ca, .int ch.2])), (pa, .inl (cL, ((wd + 63) / 64), .inr (.inl pf))), (ca, .inl (cI, wd, .inl ch.1))])) (va_Qv (fun (u : ((Nat → Int32) × Int32)) => u = f_Line_findChanges wd pf ch) (fun (u : ((Nat → Int32) × Int32)) (t : State) => va_P (dC, dI) classes [(o, .inr (2, [.int (nI wd), .ref pa, .ref ca, .int u.2])), (pa, .inl (cL, ((wd + 63) / 64), .inr (.inl pf))), (ca, .inl (cI, wd, .inl u.1))] t.heap ∧ va_K (dC, dI) classes [(cI, .int), (cL, .long)] t ∧ va_D (va_A [(o, .inr (2, [.int (nI wd), .ref pa, .ref ca, .int ch.2])), (pa, .inl (cL, ((wd + 63) / 64), .inr (.inl pf))), (ca, .inl (cI, wd, .inl ch.1))] sz) [(o, .inr (2, [.int (nI wd), .ref pa, .ref ca, .int u.2])), (pa, .inl (cL, ((wd + 63) / 64), .inr (.inl pf))), (ca, .inl (cI, wd, .inl u.1))]) (va_A [(o, .inr (2, [.int (nI wd), .ref pa, .ref ca, .int ch.2])), (pa, .inl (cL, ((wd + 63) / 64), .inr (.inl pf))), (ca, .inl (cI, wd, .inl ch.1))] sz)) 0 0 (va_A [(o, .inr (2, [.int (nI wd), .ref pa, .ref ca, .int ch.2])), (pa, .inl (cL, ((wd + 63) / 64), .inr (.inl pf))), (ca, .inl (cI, wd, .inl ch.1))] sz) := by
  refine Met.ofW (cc := b_Line_findChanges) (maxL := 6) (ret := none) (by decide) rfl ?_
  intro p e s m args below meth c s₁ B hml hv
  obtain ⟨rfl, hsz, hP, hK, hD0⟩ := hv
  have hx := B.exec
  have hb := B.bytes
  have hr := B.returns
  have hts := atoms_spec (ws := w_Line_findChanges) B.pre
  have hw : ∀ w ∈ WA, w.before _ s = true := fun w h => hts w (List.mem_cons_of_mem _ h)
  have hown : s.vm.findClass R_Line = some m.cls := findClass_of_methodNamed B.named
  have hlocks := B.notSynchronized
  subst hsz
  have hD := hD0.self (sz := s.heap.size)
  generalize hAe : va_A [(o, .inr (2, [.int (nI wd), .ref pa, .ref ca, .int ch.2])), (pa, .inl (cL, ((wd + 63) / 64), .inr (.inl pf))), (ca, .inl (cI, wd, .inl ch.1))] s.heap.size = A at hD ⊢
  have hA : ∀ q : Nat, s.heap.size ≤ q → A q := fun q h => by rw [← hAe]; exact Or.inr h
  have hS : va_S A s.heap s.heap [] := va_S.rf
  have hP : va_P (dC, dI) classes [(o, .inr (2, [.int (nI wd), .ref pa, .ref ca, .int ch.2])), (pa, .inl (cL, ((wd + 63) / 64), .inr (.inl pf))), (ca, .inl (cI, wd, .inl ch.1))] s.heap := hP
  have hl := lv_entry ([.ref o]) (n := 6) (Nat.le_of_ble_eq_true rfl)
  rw [lg_entry_eq]
  generalize (lg_sl ([.ref o]) ++ List.replicate (6 - (lg_sl ([.ref o])).length) Slot.unset).toArray = ls at hl ⊢
  have hl : lv_has ls 6 [(0, .ref o)] := hl
  refine lv_aload_n hx hb d_Line_findChanges_0 rfl (lv_at hl 0 rfl) ?_
  refine lv_iconst (v := 0) hx hb d_Line_findChanges_1 (by decide) ?_
  refine va_put (D := (dC, dI)) (ci := 2) (v := .int 0) (ty := .int) (C := R_Line) (T := F_Line) (N := 4) hx hb hw i_Line t_Line t_Line_ok n_Line hown hK hP hD hS 0 rfl rfl 3 (by decide) (hw _ m_100) (fun _ h9 => h9) rfl (by decide +kernel) rfl rfl (Nat.le_of_ble_eq_true rfl) d_Line_findChanges_2 (fun H locs hP hD hS => ?_)
  have hP : va_P (dC, dI) classes [(o, .inr (2, [.int (nI wd), .ref pa, .ref ca, .int 0])), (pa, .inl (cL, ((wd + 63) / 64), .inr (.inl pf))), (ca, .inl (cI, wd, .inl ch.1))] H := hP
  have hD : va_D A [(o, .inr (2, [.int (nI wd), .ref pa, .ref ca, .int 0])), (pa, .inl (cL, ((wd + 63) / 64), .inr (.inl pf))), (ca, .inl (cI, wd, .inl ch.1))] := hD
  refine lv_lconst (v := 0) hx hb d_Line_findChanges_5 (by decide) ?_
  refine lv_lstore_n (lv' := [(1, .long 0), (0, .ref o)]) hx hb d_Line_findChanges_6 rfl hl (by decide) rfl (fun ls hl => ?_)
  refine lv_iconst (v := 0) hx hb d_Line_findChanges_7 (by decide) ?_
  refine lv_istore_n (lv' := [(3, .int 0), (1, .long 0), (0, .ref o)]) hx hb d_Line_findChanges_8 rfl hl (by decide) rfl (fun ls hl => ?_)
  have hF9 : f_Line_findChanges wd pf ch = l_Line_findChanges_9 wd pf ch (((nI ((wd + 63) / 64)).toInt - Int32.toInt (0 : Int32)).toNat + 1) ch.1 (0 : Int32) (0 : Int64) (0 : Int32) := (by exact (rfl))
  have hI9 : ¬ (0 : Int32) < 0 ∧ ¬ (0 : Int32) < 0 := (by exact ⟨by decide, by decide⟩)
  have hP9 := hP.sub (ws' := [(o, .inr (2, [.int (nI wd), .ref pa, .ref ca, .int 0])), (pa, .inl (cL, ((wd + 63) / 64), .inr (.inl pf))), (ca, .inl (cI, wd, .inl ch.1))]) [0, 1, 2] rfl
  have hD9 := hD.sub (ws' := [(o, .inr (2, [.int (nI wd), .ref pa, .ref ca, .int 0])), (pa, .inl (cL, ((wd + 63) / 64), .inr (.inl pf))), (ca, .inl (cI, wd, .inl ch.1))]) [0, 1, 2] (by decide) rfl
  have hl9 := lv_sub (l' := [(3, .int 0), (1, .long 0), (0, .ref o)]) hl [0, 1, 2] rfl
  refine lp_n (pc := 9) (σ := (Nat → Int32) × Int32 × Int64 × Int32) (I := fun n v H locs ls => ((nI ((wd + 63) / 64)).toInt - Int32.toInt v.2.2.2).toNat < n ∧ f_Line_findChanges wd pf ch = l_Line_findChanges_9 wd pf ch n v.1 v.2.1 v.2.2.1 v.2.2.2 ∧ (¬ v.2.2.2 < 0 ∧ ¬ v.2.1 < 0) ∧ va_P (dC, dI) classes [(o, .inr (2, [.int (nI wd), .ref pa, .ref ca, .int v.2.1])), (pa, .inl (cL, ((wd + 63) / 64), .inr (.inl pf))), (ca, .inl (cI, wd, .inl v.1))] H ∧ va_D A [(o, .inr (2, [.int (nI wd), .ref pa, .ref ca, .int v.2.1])), (pa, .inl (cL, ((wd + 63) / 64), .inr (.inl pf))), (ca, .inl (cI, wd, .inl v.1))] ∧ va_S A s.heap H locs ∧ lv_has ls 6 [(3, .int v.2.2.2), (1, .long v.2.2.1), (0, .ref o)]) (fun v H locs ls h => absurd h.1 (Nat.not_lt_zero _)) ?_ (((nI ((wd + 63) / 64)).toInt - Int32.toInt (0 : Int32)).toNat + 1) (ch.1, (0 : Int32), (0 : Int64), (0 : Int32)) _ _ _ ⟨Nat.lt_succ_self _, hF9, hI9, hP9, hD9, hS, hl9⟩
  intro n9 ih9 v H locs ls hI
  obtain ⟨g, q, lf, k⟩ := v
  obtain ⟨hmu9, hF9, ⟨hi1, hi2⟩, hP, hD, hS, hl⟩ := hI
  have hmu9 : ((nI ((wd + 63) / 64)).toInt - Int32.toInt k).toNat < n9 + 1 := hmu9
  have hF9 : f_Line_findChanges wd pf ch = l_Line_findChanges_9 wd pf ch (n9 + 1) g q lf k := hF9
  have hi1 : ¬ k < 0 := hi1
  have hP : va_P (dC, dI) classes [(o, .inr (2, [.int (nI wd), .ref pa, .ref ca, .int q])), (pa, .inl (cL, ((wd + 63) / 64), .inr (.inl pf))), (ca, .inl (cI, wd, .inl g))] H := hP
  have hD : va_D A [(o, .inr (2, [.int (nI wd), .ref pa, .ref ca, .int q])), (pa, .inl (cL, ((wd + 63) / 64), .inr (.inl pf))), (ca, .inl (cI, wd, .inl g))] := hD
  have hl : lv_has ls 6 [(3, .int k), (1, .long lf), (0, .ref o)] := hl
  refine lv_iload_n hx hb d_Line_findChanges_9 rfl (lv_at hl 0 rfl) ?_
  refine lv_aload_n hx hb d_Line_findChanges_10 rfl (lv_at hl 2 rfl) ?_
  refine va_get (D := (dC, dI)) (ci := 2) (v := .ref pa) (C := R_Line) (T := F_Line) (N := 4) hx hb hw i_Line hown hK hP 0 rfl rfl 1 (by decide) (hw _ m_98) (fun _ h9 => h9) rfl d_Line_findChanges_11 ?_
  refine va_alen (v := nI ((wd + 63) / 64)) hx hb hK hP 1 1 rfl rfl rfl d_Line_findChanges_14 ?_
  refine lv_icmp_ge (tgt := 57) hx hb d_Line_findChanges_15 (by decide) (fun c_1 => ?_) (fun c_1 => ?_)
  · have hP9 := hP.sub (ws' := [(o, .inr (2, [.int (nI wd), .ref pa, .ref ca, .int q])), (pa, .inl (cL, ((wd + 63) / 64), .inr (.inl pf))), (ca, .inl (cI, wd, .inl g))]) [0, 1, 2] rfl
    have hD9 := hD.sub (ws' := [(o, .inr (2, [.int (nI wd), .ref pa, .ref ca, .int q])), (pa, .inl (cL, ((wd + 63) / 64), .inr (.inl pf))), (ca, .inl (cI, wd, .inl g))]) [0, 1, 2] (by decide) rfl
    have hK9 := hK
    exact W.vret hx hb hr (fun t ht hW => ⟨⟨(g, q), rfl, (by have h9 : f_Line_findChanges wd pf ch = (g, q) := (by exact (hF9.trans ((if_pos c_1).trans (rfl)))); exact h9.symm), ⟨by rw [ht]; exact hP9, va_K.moved hW.alike hK9, hD9⟩⟩, hS.F ht⟩) hS.2.2 d_Line_findChanges_57
  · refine lv_aload_n hx hb d_Line_findChanges_18 rfl (lv_at hl 2 rfl) ?_
    refine va_get (D := (dC, dI)) (ci := 2) (v := .ref pa) (C := R_Line) (T := F_Line) (N := 4) hx hb hw i_Line hown hK hP 0 rfl rfl 1 (by decide) (hw _ m_98) (fun _ h9 => h9) rfl d_Line_findChanges_19 ?_
    refine lv_iload_n hx hb d_Line_findChanges_22 rfl (lv_at hl 0 rfl) ?_
    refine va_lald hx hb hK hP 1 1 rfl rfl (ix_b (by omega) hi1 c_1) d_Line_findChanges_23 ?_
    refine lv_topl (fun x_2 ex_2 => ?_)
    replace ex_2 := ex_2.symm
    refine lv_lstore (lv' := [(4, .long x_2), (3, .int k), (1, .long lf), (0, .ref o)]) hx hb d_Line_findChanges_24 hl (by decide) rfl (fun ls hl => ?_)
    refine lv_aload_n hx hb d_Line_findChanges_26 rfl (lv_at hl 3 rfl) ?_
    refine lv_bipush (v := 64) hx hb d_Line_findChanges_27 (by decide) ?_
    refine lv_iload_n hx hb d_Line_findChanges_29 rfl (lv_at hl 1 rfl) ?_
    refine lv_imul hx hb d_Line_findChanges_30 ?_
    refine lv_lload hx hb d_Line_findChanges_31 (lv_at hl 0 rfl) ?_
    refine lv_lload hx hb d_Line_findChanges_33 (lv_at hl 0 rfl) ?_
    refine lv_iconst (v := 1) hx hb d_Line_findChanges_35 (by decide) ?_
    refine lv_lushr hx hb d_Line_findChanges_36 rfl ?_
    refine lv_lload_n hx hb d_Line_findChanges_37 rfl (lv_at hl 2 rfl) ?_
    refine lv_bipush (v := 63) hx hb d_Line_findChanges_38 (by decide) ?_
    refine lv_lshl hx hb d_Line_findChanges_40 rfl ?_
    refine lv_lor hx hb d_Line_findChanges_41 ?_
    refine lv_lxor hx hb d_Line_findChanges_42 ?_
    have hPc := hP.sub (ws' := [(o, .inr (2, [.int (nI wd), .ref pa, .ref ca, .int q])), (pa, .inl (cL, ((wd + 63) / 64), .inr (.inl pf))), (ca, .inl (cI, wd, .inl g))]) [0, 1, 2] rfl
    have hDc := hD.sub (ws' := [(o, .inr (2, [.int (nI wd), .ref pa, .ref ca, .int q])), (pa, .inl (cL, ((wd + 63) / 64), .inr (.inl pf))), (ca, .inl (cI, wd, .inl g))]) [0, 1, 2] (by decide) rfl
    have hFc := va_free (wc := [(o, .inr (2, [.int (nI wd), .ref pa, .ref ca, .int q])), (pa, .inl (cL, ((wd + 63) / 64), .inr (.inl pf))), (ca, .inl (cI, wd, .inl g))]) hD hS hA [0, 1, 2] rfl
    refine va_callv (va_runV (As := [.int (64 * k), .long (x_2 ^^^ (((x_2.toUInt64 >>> ((1 : Int32).toInt64.toUInt64 &&& Int64.toUInt64 63)).toInt64) ||| (lf <<< ((63 : Int32).toInt64 &&& 63))))]) (rest := []) ⟨hx, hb, hml, hown, hw⟩ (c_Line_addChanges l dC dI cI cL o pa ca wd pf H.size (g, q) (64 * k) (x_2 ^^^ (((x_2.toUInt64 >>> ((1 : Int32).toInt64.toUInt64 &&& Int64.toUInt64 63)).toInt64) ||| (lf <<< ((63 : Int32).toInt64 &&& 63)))) (hwd) (hi2)) (cwV 2 hw (gd_V m_440 m_442 m_11 m_39 m_443) rfl rfl rfl (by decide +kernel) ⟨Nat.le_of_ble_eq_true rfl, Nat.le_of_ble_eq_true rfl⟩) ⟨fun a U g mk q => by obtain ⟨q0, q1, qP, qK, qD⟩ := q; exact ⟨q0, q1, qP, va_K.moved (u := U) (U := U.calling g mk a) (Vm.Alike.refl U.vm) qK, qD⟩, va_recv hK hPc (ci := 2) (q0 := 0) rfl rfl, fun U hU hW => ⟨rfl, by rw [hU], by rw [hU]; exact hPc, va_K.moved hW.alike hK, hDc.weaken (fun _ _ _ _ => trivial)⟩⟩ rfl rfl hl.1 rfl (lv_room (Nat.le_of_ble_eq_true rfl)) d_Line_findChanges_43 ⟨Nat.le_of_ble_eq_true rfl, Nat.le_of_ble_eq_true rfl⟩) hS (fun q _ h => hFc q h) hFc (fun u_3 t H1 locs ht hvm hq3 hB hz1 hk1 hS => ?_)
    obtain ⟨hP1, hK1, hD1⟩ := hB
    rw [ht] at hP1
    obtain ⟨hP, hD⟩ := va_join (wr := []) (w1 := [(o, .inr (2, [.int (nI wd), .ref pa, .ref ca, .int u_3.2])), (pa, .inl (cL, ((wd + 63) / 64), .inr (.inl pf))), (ca, .inl (cI, wd, .inl u_3.1))]) hP hD [0, 1, 2] [] rfl rfl (by decide) (by decide) hk1 hFc hP1 hD1
    generalize H1 = H at hP hS ht ⊢
    have hP : va_P (dC, dI) classes [(o, .inr (2, [.int (nI wd), .ref pa, .ref ca, .int u_3.2])), (pa, .inl (cL, ((wd + 63) / 64), .inr (.inl pf))), (ca, .inl (cI, wd, .inl u_3.1))] H := hP
    have hD : va_D A [(o, .inr (2, [.int (nI wd), .ref pa, .ref ca, .int u_3.2])), (pa, .inl (cL, ((wd + 63) / 64), .inr (.inl pf))), (ca, .inl (cI, wd, .inl u_3.1))] := hD
    have eu_3 : f_Line_addChanges wd (g, q) (64 * k) (x_2 ^^^ (((x_2.toUInt64 >>> ((1 : Int32).toInt64.toUInt64 &&& Int64.toUInt64 63)).toInt64) ||| (lf <<< ((63 : Int32).toInt64 &&& 63)))) = u_3 := hq3.symm
    refine lv_lload hx hb d_Line_findChanges_46 (lv_at hl 0 rfl) ?_
    refine lv_lconst (v := 1) hx hb d_Line_findChanges_48 (by decide) ?_
    refine lv_land hx hb d_Line_findChanges_49 ?_
    refine lv_topl (fun x_4 ex_4 => ?_)
    replace ex_4 := ex_4.symm
    refine lv_lstore_n (lv' := [(1, .long x_4), (4, .long x_2), (3, .int k), (0, .ref o)]) hx hb d_Line_findChanges_50 rfl hl (by decide) rfl (fun ls hl => ?_)
    obtain ⟨x_5, ex_5⟩ : ∃ y : Int32, y = k + 1 := ⟨_, rfl⟩
    refine lv_iinc (v := x_5) (lv' := [(3, .int x_5), (1, .long x_4), (4, .long x_2), (0, .ref o)]) hx hb d_Line_findChanges_51 hl (k := 2) rfl (by rw [ex_5]; rfl) (by decide) rfl (fun ls hl => ?_)
    replace ex_5 := ex_5.symm
    refine lv_goto (tgt := 9) hx hb d_Line_findChanges_54 (by decide) ?_
    have hF9 : f_Line_findChanges wd pf ch = l_Line_findChanges_9 wd pf ch n9 u_3.1 u_3.2 x_4 x_5 := (by subst ex_2 eu_3 ex_4 ex_5; exact (hF9.trans ((if_neg c_1).trans (rfl))))
    have hI9 : ¬ x_5 < 0 ∧ ¬ u_3.2 < 0 := (by subst ex_2 eu_3 ex_4 ex_5; exact ⟨nn_s (by omega) hi1 c_1, addChanges_nn hwd hi2⟩)
    have hP9 := hP.sub (ws' := [(o, .inr (2, [.int (nI wd), .ref pa, .ref ca, .int u_3.2])), (pa, .inl (cL, ((wd + 63) / 64), .inr (.inl pf))), (ca, .inl (cI, wd, .inl u_3.1))]) [0, 1, 2] rfl
    have hD9 := hD.sub (ws' := [(o, .inr (2, [.int (nI wd), .ref pa, .ref ca, .int u_3.2])), (pa, .inl (cL, ((wd + 63) / 64), .inr (.inl pf))), (ca, .inl (cI, wd, .inl u_3.1))]) [0, 1, 2] (by decide) rfl
    have hl9 := lv_sub (l' := [(3, .int x_5), (1, .long x_4), (0, .ref o)]) hl [0, 1, 3] rfl
    have hm9 : ((nI ((wd + 63) / 64)).toInt - Int32.toInt x_5).toNat < ((nI ((wd + 63) / 64)).toInt - Int32.toInt k).toNat := (by subst ex_2 eu_3 ex_4 ex_5; exact mu_b c_1)
    exact ih9 (u_3.1, u_3.2, x_4, x_5) _ _ _ ⟨Nat.lt_of_lt_of_le hm9 (Nat.le_of_lt_succ hmu9), hF9, hI9, hP9, hD9, hS, hl9⟩
