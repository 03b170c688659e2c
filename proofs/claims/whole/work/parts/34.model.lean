def f_Model_black (wd : Nat) (rab : Nat → Bool) (th : Int32) (x : Int32) : Int32 × Int32 := if x < 0 then ((0, 1)) else (if x < (nI wd) then (if (bI (rab x.toNatClampNeg)) = 0 then ((0, 0)) else ((1, 0))) else ((0, 1)))
set_option maxHeartbeats 4000000 in
set_option maxRecDepth 100000 in
theorem c_Model_black (l : Launch) (dC : Nat → ClassId) (dI : Nat → Nat → Nat) (cI cZ : ClassId) (mm : Nat) (mwr : Nat) (mbr : Nat) (mwb : Nat) (mbb : Nat) (mbl : Nat) (mmo : Nat) (mli : Nat) (mab : Nat) (mou : Nat) (mne : Nat) (mina : Nat) (mrl : Nat) (mra : Nat) (wd : Nat) (bt : Int32) (cl : Bool) (cd : Int32) (c3 : Int32 × Int32 × Int32) (nx : Int32) (w3 : Int32 × Int32 × Int32) (gv : Int32) (lns : Int32) (ps : Int32) (st : Int32) (tu : Bool) (rab : Nat → Bool) (sz : Nat) (th : Int32) (x : Int32) (hwd : wd ≤ 10000) : Met l y_Model_black w_Model_black ({ frames := 0, cells := 0, slots := 0, locals := 0 }) (va_Pc [.ref mm, .int x] (fun U => U.heap.size = sz ∧ va_P (dC, dI) classes [(mm, .inr (7, [.ref mwr, .ref mbr, .ref mwb, .ref mbb, .ref mbl, .ref mmo, .int th, .int (nI wd), .ref mli, .ref mab, .ref mou, .int bt, .int (bI cl), .int cd, .int c3.1, .int c3.2.1, .int c3.2.2, .ref mne, .int nx, .int w3.1, .int w3.2.1, .int w3.2.2, .ref mina, .int gv, .ref mrl, .ref mra, .int lns, .int ps, .int st, .int (bI tu)])), (mra, .inl (cZ, wd, .inl (fun jz => bI (rab jz))))] U.heap ∧ va_K (dC, dI) classes [(cI, .int), (cZ, .boolean)] U ∧ va_D (fun _ => True) [(mm, .inr (7, [.ref mwr, .ref mbr, .ref mwb, .ref mbb, .ref mbl, .ref mmo, .int th, .int (nI wd), .ref mli, .ref mab, .ref mou, .int bt, .int (bI cl), .int cd, .int c3.1, .int c3.2.1, .int c3.2.2, .ref mne, .int nx, .int w3.1, .int w3.2.1, .int w3.2.2, .ref mina, .int gv, .ref mrl, .ref mra, .int lns, .int ps, .int st, .int (bI tu)])), (mra, .inl (cZ, wd, .inl (fun jz => bI (rab jz))))])) (va_Qi (fun (r : Int32) (u : Int32) => r = (f_Model_black wd rab th x).1 ∧ u = (f_Model_black wd rab th x).2) (fun (u : Int32) (t : State) => va_P (dC, dI) classes [(mm, .inr (7, [.ref mwr, .ref mbr, .ref mwb, .ref mbb, .ref mbl, .ref mmo, .int u, .int (nI wd), .ref mli, .ref mab, .ref mou, .int bt, .int (bI cl), .int cd, .int c3.1, .int c3.2.1, .int c3.2.2, .ref mne, .int nx, .int w3.1, .int w3.2.1, .int w3.2.2, .ref mina, .int gv, .ref mrl, .ref mra, .int lns, .int ps, .int st, .int (bI tu)])), (mra, .inl (cZ, wd, .inl (fun jz => bI (rab jz))))] t.heap ∧ va_K (dC, dI) classes [(cI, .int), (cZ, .boolean)] t ∧ va_D (va_A [(mm, .inr (7, [.ref mwr, .ref mbr, .ref mwb, .ref mbb, .ref mbl, .ref mmo, .int th, .int (nI wd), .ref mli, .ref mab, .ref mou, .int bt, .int (bI cl), .int cd, .int c3.1, .int c3.2.1, .int c3.2.2, .ref mne, .int nx, .int w3.1, .int w3.2.1, .int w3.2.2, .ref mina, .int gv, .ref mrl, .ref mra, .int lns, .int ps, .int st, .int (bI tu)])), (mra, .inl (cZ, wd, .inl (fun jz => bI (rab jz))))] sz) [(mm, .inr (7, [.ref mwr, .ref mbr, .ref mwb, .ref mbb, .ref mbl, .ref mmo, .int u, .int (nI wd), .ref mli, .ref mab, .ref mou, .int bt, .int (bI cl), .int cd, .int c3.1, .int c3.2.1, .int c3.2.2, .ref mne, .int nx, .int w3.1, .int w3.2.1, .int w3.2.2, .ref mina, .int gv, .ref mrl, .ref mra, .int lns, .int ps, .int st, .int (bI tu)])), (mra, .inl (cZ, wd, .inl (fun jz => bI (rab jz))))]) (va_A [(mm, .inr (7, [.ref mwr, .ref mbr, .ref mwb, .ref mbb, .ref mbl, .ref mmo, .int th, .int (nI wd), .ref mli, .ref mab, .ref mou, .int bt, .int (bI cl), .int cd, .int c3.1, .int c3.2.1, .int c3.2.2, .ref mne, .int nx, .int w3.1, .int w3.2.1, .int w3.2.2, .ref mina, .int gv, .ref mrl, .ref mra, .int lns, .int ps, .int st, .int (bI tu)])), (mra, .inl (cZ, wd, .inl (fun jz => bI (rab jz))))] sz)) 0 0 (va_A [(mm, .inr (7, [.ref mwr, .ref mbr, .ref mwb, .ref mbb, .ref mbl, .ref mmo, .int th, .int (nI wd), .ref mli, .ref mab, .ref mou, .int bt, .int (bI cl), .int cd, .int c3.1, .int c3.2.1, .int c3.2.2, .ref mne, .int nx, .int w3.1, .int w3.2.1, .int w3.2.2, .ref mina, .int gv, .ref mrl, .ref mra, .int lns, .int ps, .int st, .int (bI tu)])), (mra, .inl (cZ, wd, .inl (fun jz => bI (rab jz))))] sz) := by
  refine Met.ofW (cc := b_Model_black) (maxL := 2) (ret := (some .boolean)) (by decide) rfl ?_
  intro p e s m args below meth c s₁ B hml hv
  obtain ⟨rfl, hsz, hP, hK, hD0⟩ := hv
  have hx := B.exec
  have hb := B.bytes
  have hr := B.returns
  have hts := atoms_spec (ws := w_Model_black) B.pre
  have hw : ∀ w ∈ WA, w.before _ s = true := fun w h => hts w (List.mem_cons_of_mem _ h)
  have hown : s.vm.findClass R_Model = some m.cls := findClass_of_methodNamed B.named
  have hlocks := B.notSynchronized
  subst hsz
  have hD := hD0.self (sz := s.heap.size)
  generalize hAe : va_A [(mm, .inr (7, [.ref mwr, .ref mbr, .ref mwb, .ref mbb, .ref mbl, .ref mmo, .int th, .int (nI wd), .ref mli, .ref mab, .ref mou, .int bt, .int (bI cl), .int cd, .int c3.1, .int c3.2.1, .int c3.2.2, .ref mne, .int nx, .int w3.1, .int w3.2.1, .int w3.2.2, .ref mina, .int gv, .ref mrl, .ref mra, .int lns, .int ps, .int st, .int (bI tu)])), (mra, .inl (cZ, wd, .inl (fun jz => bI (rab jz))))] s.heap.size = A at hD ⊢
  have hA : ∀ q : Nat, s.heap.size ≤ q → A q := fun q h => by rw [← hAe]; exact Or.inr h
  have hS : va_S A s.heap s.heap [] := va_S.rf
  have hP : va_P (dC, dI) classes [(mm, .inr (7, [.ref mwr, .ref mbr, .ref mwb, .ref mbb, .ref mbl, .ref mmo, .int th, .int (nI wd), .ref mli, .ref mab, .ref mou, .int bt, .int (bI cl), .int cd, .int c3.1, .int c3.2.1, .int c3.2.2, .ref mne, .int nx, .int w3.1, .int w3.2.1, .int w3.2.2, .ref mina, .int gv, .ref mrl, .ref mra, .int lns, .int ps, .int st, .int (bI tu)])), (mra, .inl (cZ, wd, .inl (fun jz => bI (rab jz))))] s.heap := hP
  have hl := lv_entry ([.ref mm, .int x]) (n := 2) (Nat.le_of_ble_eq_true rfl)
  rw [lg_entry_eq]
  generalize (lg_sl ([.ref mm, .int x]) ++ List.replicate (2 - (lg_sl ([.ref mm, .int x])).length) Slot.unset).toArray = ls at hl ⊢
  have hl : lv_has ls 2 [(0, .ref mm), (1, .int x)] := hl
  refine lv_aload_n hx hb d_Model_black_0 rfl (lv_at hl 0 rfl) ?_
  refine lv_iload_n hx hb d_Model_black_1 rfl (lv_at hl 1 rfl) ?_
  refine lv_if_lt (tgt := 13) hx hb d_Model_black_2 (by decide) (fun c_1 => ?_) (fun c_1 => ?_)
  · refine lv_iconst (v := 1) hx hb d_Model_black_13 (by decide) ?_
    refine lv_goto (tgt := 18) hx hb d_Model_black_14 (by decide) ?_
    refine va_put (D := (dC, dI)) (ci := 7) (v := .int 1) (ty := .int) (C := R_Model) (T := F_Model) (N := 30) hx hb hw i_Model t_Model t_Model_ok n_Model hown hK hP hD hS 0 rfl rfl 6 (by decide) (hw _ m_670) (fun _ h9 => h9) rfl (by decide +kernel) rfl rfl (Nat.le_of_ble_eq_true rfl) d_Model_black_18 (fun H locs hP hD hS => ?_)
    have hP : va_P (dC, dI) classes [(mm, .inr (7, [.ref mwr, .ref mbr, .ref mwb, .ref mbb, .ref mbl, .ref mmo, .int 1, .int (nI wd), .ref mli, .ref mab, .ref mou, .int bt, .int (bI cl), .int cd, .int c3.1, .int c3.2.1, .int c3.2.2, .ref mne, .int nx, .int w3.1, .int w3.2.1, .int w3.2.2, .ref mina, .int gv, .ref mrl, .ref mra, .int lns, .int ps, .int st, .int (bI tu)])), (mra, .inl (cZ, wd, .inl (fun jz => bI (rab jz))))] H := hP
    have hD : va_D A [(mm, .inr (7, [.ref mwr, .ref mbr, .ref mwb, .ref mbb, .ref mbl, .ref mmo, .int 1, .int (nI wd), .ref mli, .ref mab, .ref mou, .int bt, .int (bI cl), .int cd, .int c3.1, .int c3.2.1, .int c3.2.2, .ref mne, .int nx, .int w3.1, .int w3.2.1, .int w3.2.2, .ref mina, .int gv, .ref mrl, .ref mra, .int lns, .int ps, .int st, .int (bI tu)])), (mra, .inl (cZ, wd, .inl (fun jz => bI (rab jz))))] := hD
    refine lv_aload_n hx hb d_Model_black_21 rfl (lv_at hl 0 rfl) ?_
    refine va_get (D := (dC, dI)) (ci := 7) (v := .int 1) (C := R_Model) (T := F_Model) (N := 30) hx hb hw i_Model hown hK hP 0 rfl rfl 6 (by decide) (hw _ m_670) (fun _ h9 => h9) rfl d_Model_black_22 ?_
    refine lv_if_ne (tgt := 41) hx hb d_Model_black_25 (by decide) (fun c_2 => ?_) (fun c_2 => ?_)
    · refine lv_iconst (v := 0) hx hb d_Model_black_41 (by decide) ?_
      have hP9 := hP.sub (ws' := [(mm, .inr (7, [.ref mwr, .ref mbr, .ref mwb, .ref mbb, .ref mbl, .ref mmo, .int 1, .int (nI wd), .ref mli, .ref mab, .ref mou, .int bt, .int (bI cl), .int cd, .int c3.1, .int c3.2.1, .int c3.2.2, .ref mne, .int nx, .int w3.1, .int w3.2.1, .int w3.2.2, .ref mina, .int gv, .ref mrl, .ref mra, .int lns, .int ps, .int st, .int (bI tu)])), (mra, .inl (cZ, wd, .inl (fun jz => bI (rab jz))))]) [0, 1] rfl
      have hD9 := hD.sub (ws' := [(mm, .inr (7, [.ref mwr, .ref mbr, .ref mwb, .ref mbb, .ref mbl, .ref mmo, .int 1, .int (nI wd), .ref mli, .ref mab, .ref mou, .int bt, .int (bI cl), .int cd, .int c3.1, .int c3.2.1, .int c3.2.2, .ref mne, .int nx, .int w3.1, .int w3.2.1, .int w3.2.2, .ref mina, .int gv, .ref mrl, .ref mra, .int lns, .int ps, .int st, .int (bI tu)])), (mra, .inl (cZ, wd, .inl (fun jz => bI (rab jz))))]) [0, 1] (by decide) rfl
      have hK9 := hK
      exact W.zret (v := 0) hx hb hr rfl (fun t ht hW => ⟨⟨0, 1, rfl, (by have h9 : f_Model_black wd rab th x = (0, 1) := (by exact ((if_pos c_1).trans (rfl))); exact ⟨(congrArg Prod.fst h9).symm, (congrArg Prod.snd h9).symm⟩), ⟨by rw [ht]; exact hP9, va_K.moved hW.alike hK9, hD9⟩⟩, hS.F ht⟩) hS.2.2 d_Model_black_42
    · exact absurd c_2 (by first | decide | assumption | exact not_not_intro (by assumption))
  · refine lv_iload_n hx hb d_Model_black_5 rfl (lv_at hl 1 rfl) ?_
    refine lv_aload_n hx hb d_Model_black_6 rfl (lv_at hl 0 rfl) ?_
    refine va_get (D := (dC, dI)) (ci := 7) (v := .int (nI wd)) (C := R_Model) (T := F_Model) (N := 30) hx hb hw i_Model hown hK hP 0 rfl rfl 7 (by decide) (hw _ m_671) (fun _ h9 => h9) rfl d_Model_black_7 ?_
    refine lv_icmp_lt (tgt := 17) hx hb d_Model_black_10 (by decide) (fun c_3 => ?_) (fun c_3 => ?_)
    · refine lv_iconst (v := 0) hx hb d_Model_black_17 (by decide) ?_
      refine va_put (D := (dC, dI)) (ci := 7) (v := .int 0) (ty := .int) (C := R_Model) (T := F_Model) (N := 30) hx hb hw i_Model t_Model t_Model_ok n_Model hown hK hP hD hS 0 rfl rfl 6 (by decide) (hw _ m_670) (fun _ h9 => h9) rfl (by decide +kernel) rfl rfl (Nat.le_of_ble_eq_true rfl) d_Model_black_18 (fun H locs hP hD hS => ?_)
      have hP : va_P (dC, dI) classes [(mm, .inr (7, [.ref mwr, .ref mbr, .ref mwb, .ref mbb, .ref mbl, .ref mmo, .int 0, .int (nI wd), .ref mli, .ref mab, .ref mou, .int bt, .int (bI cl), .int cd, .int c3.1, .int c3.2.1, .int c3.2.2, .ref mne, .int nx, .int w3.1, .int w3.2.1, .int w3.2.2, .ref mina, .int gv, .ref mrl, .ref mra, .int lns, .int ps, .int st, .int (bI tu)])), (mra, .inl (cZ, wd, .inl (fun jz => bI (rab jz))))] H := hP
      have hD : va_D A [(mm, .inr (7, [.ref mwr, .ref mbr, .ref mwb, .ref mbb, .ref mbl, .ref mmo, .int 0, .int (nI wd), .ref mli, .ref mab, .ref mou, .int bt, .int (bI cl), .int cd, .int c3.1, .int c3.2.1, .int c3.2.2, .ref mne, .int nx, .int w3.1, .int w3.2.1, .int w3.2.2, .ref mina, .int gv, .ref mrl, .ref mra, .int lns, .int ps, .int st, .int (bI tu)])), (mra, .inl (cZ, wd, .inl (fun jz => bI (rab jz))))] := hD
      refine lv_aload_n hx hb d_Model_black_21 rfl (lv_at hl 0 rfl) ?_
      refine va_get (D := (dC, dI)) (ci := 7) (v := .int 0) (C := R_Model) (T := F_Model) (N := 30) hx hb hw i_Model hown hK hP 0 rfl rfl 6 (by decide) (hw _ m_670) (fun _ h9 => h9) rfl d_Model_black_22 ?_
      refine lv_if_ne (tgt := 41) hx hb d_Model_black_25 (by decide) (fun c_4 => ?_) (fun c_4 => ?_)
      · exact absurd c_4 (by first | decide | assumption | exact not_not_intro (by assumption))
      · refine lv_aload_n hx hb d_Model_black_28 rfl (lv_at hl 0 rfl) ?_
        refine va_get (D := (dC, dI)) (ci := 7) (v := .ref mra) (C := R_Model) (T := F_Model) (N := 30) hx hb hw i_Model hown hK hP 0 rfl rfl 25 (by decide) (hw _ m_689) (fun _ h9 => h9) rfl d_Model_black_29 ?_
        refine lv_iload_n hx hb d_Model_black_32 rfl (lv_at hl 1 rfl) ?_
        refine va_zald hx hb hK hP 1 1 rfl rfl (ix_a (by omega) c_1 c_3) d_Model_black_33 ?_
        refine lv_if_eq (tgt := 41) hx hb d_Model_black_34 (by decide) (fun c_5 => ?_) (fun c_5 => ?_)
        · refine lv_iconst (v := 0) hx hb d_Model_black_41 (by decide) ?_
          have hP9 := hP.sub (ws' := [(mm, .inr (7, [.ref mwr, .ref mbr, .ref mwb, .ref mbb, .ref mbl, .ref mmo, .int 0, .int (nI wd), .ref mli, .ref mab, .ref mou, .int bt, .int (bI cl), .int cd, .int c3.1, .int c3.2.1, .int c3.2.2, .ref mne, .int nx, .int w3.1, .int w3.2.1, .int w3.2.2, .ref mina, .int gv, .ref mrl, .ref mra, .int lns, .int ps, .int st, .int (bI tu)])), (mra, .inl (cZ, wd, .inl (fun jz => bI (rab jz))))]) [0, 1] rfl
          have hD9 := hD.sub (ws' := [(mm, .inr (7, [.ref mwr, .ref mbr, .ref mwb, .ref mbb, .ref mbl, .ref mmo, .int 0, .int (nI wd), .ref mli, .ref mab, .ref mou, .int bt, .int (bI cl), .int cd, .int c3.1, .int c3.2.1, .int c3.2.2, .ref mne, .int nx, .int w3.1, .int w3.2.1, .int w3.2.2, .ref mina, .int gv, .ref mrl, .ref mra, .int lns, .int ps, .int st, .int (bI tu)])), (mra, .inl (cZ, wd, .inl (fun jz => bI (rab jz))))]) [0, 1] (by decide) rfl
          have hK9 := hK
          exact W.zret (v := 0) hx hb hr rfl (fun t ht hW => ⟨⟨0, 0, rfl, (by have h9 : f_Model_black wd rab th x = (0, 0) := (by exact ((if_neg c_1).trans ((if_pos c_3).trans ((if_pos c_5).trans (rfl))))); exact ⟨(congrArg Prod.fst h9).symm, (congrArg Prod.snd h9).symm⟩), ⟨by rw [ht]; exact hP9, va_K.moved hW.alike hK9, hD9⟩⟩, hS.F ht⟩) hS.2.2 d_Model_black_42
        · refine lv_iconst (v := 1) hx hb d_Model_black_37 (by decide) ?_
          refine lv_goto (tgt := 42) hx hb d_Model_black_38 (by decide) ?_
          have hP9 := hP.sub (ws' := [(mm, .inr (7, [.ref mwr, .ref mbr, .ref mwb, .ref mbb, .ref mbl, .ref mmo, .int 0, .int (nI wd), .ref mli, .ref mab, .ref mou, .int bt, .int (bI cl), .int cd, .int c3.1, .int c3.2.1, .int c3.2.2, .ref mne, .int nx, .int w3.1, .int w3.2.1, .int w3.2.2, .ref mina, .int gv, .ref mrl, .ref mra, .int lns, .int ps, .int st, .int (bI tu)])), (mra, .inl (cZ, wd, .inl (fun jz => bI (rab jz))))]) [0, 1] rfl
          have hD9 := hD.sub (ws' := [(mm, .inr (7, [.ref mwr, .ref mbr, .ref mwb, .ref mbb, .ref mbl, .ref mmo, .int 0, .int (nI wd), .ref mli, .ref mab, .ref mou, .int bt, .int (bI cl), .int cd, .int c3.1, .int c3.2.1, .int c3.2.2, .ref mne, .int nx, .int w3.1, .int w3.2.1, .int w3.2.2, .ref mina, .int gv, .ref mrl, .ref mra, .int lns, .int ps, .int st, .int (bI tu)])), (mra, .inl (cZ, wd, .inl (fun jz => bI (rab jz))))]) [0, 1] (by decide) rfl
          have hK9 := hK
          exact W.zret (v := 1) hx hb hr rfl (fun t ht hW => ⟨⟨1, 0, rfl, (by have h9 : f_Model_black wd rab th x = (1, 0) := (by exact ((if_neg c_1).trans ((if_pos c_3).trans ((if_neg c_5).trans (rfl))))); exact ⟨(congrArg Prod.fst h9).symm, (congrArg Prod.snd h9).symm⟩), ⟨by rw [ht]; exact hP9, va_K.moved hW.alike hK9, hD9⟩⟩, hS.F ht⟩) hS.2.2 d_Model_black_42
    · refine lv_iconst (v := 1) hx hb d_Model_black_13 (by decide) ?_
      refine lv_goto (tgt := 18) hx hb d_Model_black_14 (by decide) ?_
      refine va_put (D := (dC, dI)) (ci := 7) (v := .int 1) (ty := .int) (C := R_Model) (T := F_Model) (N := 30) hx hb hw i_Model t_Model t_Model_ok n_Model hown hK hP hD hS 0 rfl rfl 6 (by decide) (hw _ m_670) (fun _ h9 => h9) rfl (by decide +kernel) rfl rfl (Nat.le_of_ble_eq_true rfl) d_Model_black_18 (fun H locs hP hD hS => ?_)
      have hP : va_P (dC, dI) classes [(mm, .inr (7, [.ref mwr, .ref mbr, .ref mwb, .ref mbb, .ref mbl, .ref mmo, .int 1, .int (nI wd), .ref mli, .ref mab, .ref mou, .int bt, .int (bI cl), .int cd, .int c3.1, .int c3.2.1, .int c3.2.2, .ref mne, .int nx, .int w3.1, .int w3.2.1, .int w3.2.2, .ref mina, .int gv, .ref mrl, .ref mra, .int lns, .int ps, .int st, .int (bI tu)])), (mra, .inl (cZ, wd, .inl (fun jz => bI (rab jz))))] H := hP
      have hD : va_D A [(mm, .inr (7, [.ref mwr, .ref mbr, .ref mwb, .ref mbb, .ref mbl, .ref mmo, .int 1, .int (nI wd), .ref mli, .ref mab, .ref mou, .int bt, .int (bI cl), .int cd, .int c3.1, .int c3.2.1, .int c3.2.2, .ref mne, .int nx, .int w3.1, .int w3.2.1, .int w3.2.2, .ref mina, .int gv, .ref mrl, .ref mra, .int lns, .int ps, .int st, .int (bI tu)])), (mra, .inl (cZ, wd, .inl (fun jz => bI (rab jz))))] := hD
      refine lv_aload_n hx hb d_Model_black_21 rfl (lv_at hl 0 rfl) ?_
      refine va_get (D := (dC, dI)) (ci := 7) (v := .int 1) (C := R_Model) (T := F_Model) (N := 30) hx hb hw i_Model hown hK hP 0 rfl rfl 6 (by decide) (hw _ m_670) (fun _ h9 => h9) rfl d_Model_black_22 ?_
      refine lv_if_ne (tgt := 41) hx hb d_Model_black_25 (by decide) (fun c_6 => ?_) (fun c_6 => ?_)
      · refine lv_iconst (v := 0) hx hb d_Model_black_41 (by decide) ?_
        have hP9 := hP.sub (ws' := [(mm, .inr (7, [.ref mwr, .ref mbr, .ref mwb, .ref mbb, .ref mbl, .ref mmo, .int 1, .int (nI wd), .ref mli, .ref mab, .ref mou, .int bt, .int (bI cl), .int cd, .int c3.1, .int c3.2.1, .int c3.2.2, .ref mne, .int nx, .int w3.1, .int w3.2.1, .int w3.2.2, .ref mina, .int gv, .ref mrl, .ref mra, .int lns, .int ps, .int st, .int (bI tu)])), (mra, .inl (cZ, wd, .inl (fun jz => bI (rab jz))))]) [0, 1] rfl
        have hD9 := hD.sub (ws' := [(mm, .inr (7, [.ref mwr, .ref mbr, .ref mwb, .ref mbb, .ref mbl, .ref mmo, .int 1, .int (nI wd), .ref mli, .ref mab, .ref mou, .int bt, .int (bI cl), .int cd, .int c3.1, .int c3.2.1, .int c3.2.2, .ref mne, .int nx, .int w3.1, .int w3.2.1, .int w3.2.2, .ref mina, .int gv, .ref mrl, .ref mra, .int lns, .int ps, .int st, .int (bI tu)])), (mra, .inl (cZ, wd, .inl (fun jz => bI (rab jz))))]) [0, 1] (by decide) rfl
        have hK9 := hK
        exact W.zret (v := 0) hx hb hr rfl (fun t ht hW => ⟨⟨0, 1, rfl, (by have h9 : f_Model_black wd rab th x = (0, 1) := (by exact ((if_neg c_1).trans ((if_neg c_3).trans (rfl)))); exact ⟨(congrArg Prod.fst h9).symm, (congrArg Prod.snd h9).symm⟩), ⟨by rw [ht]; exact hP9, va_K.moved hW.alike hK9, hD9⟩⟩, hS.F ht⟩) hS.2.2 d_Model_black_42
      · exact absurd c_6 (by first | decide | assumption | exact not_not_intro (by assumption))
def l_Model_dots_10 (wd : Nat) (rab : Nat → Bool) (th : Int32) (x : Int32) : Nat → Int64 → Int32 → Int32 → Int64 × Int32
  | 0, _, _, _ => default
  | n10 + 1, y, i, zth => if 64 ≤ i then ((y, zth)) else (let x_2 := (64 * x.toInt64) + i.toInt64; if (lg_cmp x_2 0) < 0 then (let x_5 := (y <<< ((1 : Int32).toInt64 &&& 63)) ||| 0; let x_6 := i + 1; l_Model_dots_10 wd rab th x n10 x_5 x_6 zth) else (if 0 ≤ (lg_cmp x_2 ((nI wd).toInt64)) then (let x_9 := (y <<< ((1 : Int32).toInt64 &&& 63)) ||| 0; let x_10 := i + 1; l_Model_dots_10 wd rab th x n10 x_9 x_10 zth) else (if (bI (rab x_2.toInt32.toNatClampNeg)) = 0 then (let x_14 := (y <<< ((1 : Int32).toInt64 &&& 63)) ||| 0; let x_15 := i + 1; l_Model_dots_10 wd rab th x n10 x_14 x_15 zth) else (let x_16 := (y <<< ((1 : Int32).toInt64 &&& 63)) ||| 1; let x_17 := i + 1; l_Model_dots_10 wd rab th x n10 x_16 x_17 zth))))
def f_Model_dots (wd : Nat) (rab : Nat → Bool) (th : Int32) (x : Int32) : Int64 × Int32 := l_Model_dots_10 wd rab th x (((64 : Int32).toInt - Int32.toInt (0 : Int32)).toNat + 1) (0 : Int64) (0 : Int32) (0 : Int32)
set_option maxHeartbeats 4000000 in
set_option maxRecDepth 100000 in
theorem c_Model_dots (l : Launch) (dC : Nat → ClassId) (dI : Nat → Nat → Nat) (cI cZ : ClassId) (mm : Nat) (mwr : Nat) (mbr : Nat) (mwb : Nat) (mbb : Nat) (mbl : Nat) (mmo : Nat) (mli : Nat) (mab : Nat) (mou : Nat) (mne : Nat) (mina : Nat) (mrl : Nat) (mra : Nat) (wd : Nat) (bt : Int32) (cl : Bool) (cd : Int32) (c3 : Int32 × Int32 × Int32) (nx : Int32) (w3 : Int32 × Int32 × Int32) (gv : Int32) (lns : Int32) (ps : Int32) (st : Int32) (tu : Bool) (rab : Nat → Bool) (sz : Nat) (th : Int32) (x : Int32) (hwd : wd ≤ 10000) : Met l y_Model_dots w_Model_dots ({ frames := 0, cells := 0, slots := 0, locals := 0 }) (va_Pc [.ref mm, .int x] (fun U => U.heap.size = sz ∧ va_P (dC, dI) classes [(mm, .inr (7, [.ref mwr, .ref mbr, .ref mwb, .ref mbb, .ref mbl, .ref mmo, .int th, .int (nI wd), .ref mli, .ref mab, .ref mou, .int bt, .int (bI cl), .int cd, .int c3.1, .int c3.2.1, .int c3.2.2, .ref mne, .int nx, .int w3.1, .int w3.2.1, .int w3.2.2, .ref mina, .int gv, .ref mrl, .ref mra, .int lns, .int ps, .int st, .int (bI tu)])), (mra, .inl (cZ, wd, .inl (fun jz => bI (rab jz))))] U.heap ∧ va_K (dC, dI) classes [(cI, .int), (cZ, .boolean)] U ∧ va_D (fun _ => True) [(mm, .inr (7, [.ref mwr, .ref mbr, .ref mwb, .ref mbb, .ref mbl, .ref mmo, .int th, .int (nI wd), .ref mli, .ref mab, .ref mou, .int bt, .int (bI cl), .int cd, .int c3.1, .int c3.2.1, .int c3.2.2, .ref mne, .int nx, .int w3.1, .int w3.2.1, .int w3.2.2, .ref mina, .int gv, .ref mrl, .ref mra, .int lns, .int ps, .int st, .int (bI tu)])), (mra, .inl (cZ, wd, .inl (fun jz => bI (rab jz))))])) (va_Ql (fun (r : Int64) (u : Int32) => r = (f_Model_dots wd rab th x).1 ∧ u = (f_Model_dots wd rab th x).2) (fun (u : Int32) (t : State) => va_P (dC, dI) classes [(mm, .inr (7, [.ref mwr, .ref mbr, .ref mwb, .ref mbb, .ref mbl, .ref mmo, .int u, .int (nI wd), .ref mli, .ref mab, .ref mou, .int bt, .int (bI cl), .int cd, .int c3.1, .int c3.2.1, .int c3.2.2, .ref mne, .int nx, .int w3.1, .int w3.2.1, .int w3.2.2, .ref mina, .int gv, .ref mrl, .ref mra, .int lns, .int ps, .int st, .int (bI tu)])), (mra, .inl (cZ, wd, .inl (fun jz => bI (rab jz))))] t.heap ∧ va_K (dC, dI) classes [(cI, .int), (cZ, .boolean)] t ∧ va_D (va_A [(mm, .inr (7, [.ref mwr, .ref mbr, .ref mwb, .ref mbb, .ref mbl, .ref mmo, .int th, .int (nI wd), .ref mli, .ref mab, .ref mou, .int bt, .int (bI cl), .int cd, .int c3.1, .int c3.2.1, .int c3.2.2, .ref mne, .int nx, .int w3.1, .int w3.2.1, .int w3.2.2, .ref mina, .int gv, .ref mrl, .ref mra, .int lns, .int ps, .int st, .int (bI tu)])), (mra, .inl (cZ, wd, .inl (fun jz => bI (rab jz))))] sz) [(mm, .inr (7, [.ref mwr, .ref mbr, .ref mwb, .ref mbb, .ref mbl, .ref mmo, .int u, .int (nI wd), .ref mli, .ref mab, .ref mou, .int bt, .int (bI cl), .int cd, .int c3.1, .int c3.2.1, .int c3.2.2, .ref mne, .int nx, .int w3.1, .int w3.2.1, .int w3.2.2, .ref mina, .int gv, .ref mrl, .ref mra, .int lns, .int ps, .int st, .int (bI tu)])), (mra, .inl (cZ, wd, .inl (fun jz => bI (rab jz))))]) (va_A [(mm, .inr (7, [.ref mwr, .ref mbr, .ref mwb, .ref mbb, .ref mbl, .ref mmo, .int th, .int (nI wd), .ref mli, .ref mab, .ref mou, .int bt, .int (bI cl), .int cd, .int c3.1, .int c3.2.1, .int c3.2.2, .ref mne, .int nx, .int w3.1, .int w3.2.1, .int w3.2.2, .ref mina, .int gv, .ref mrl, .ref mra, .int lns, .int ps, .int st, .int (bI tu)])), (mra, .inl (cZ, wd, .inl (fun jz => bI (rab jz))))] sz)) 0 0 (va_A [(mm, .inr (7, [.ref mwr, .ref mbr, .ref mwb, .ref mbb, .ref mbl, .ref mmo, .int th, .int (nI wd), .ref mli, .ref mab, .ref mou, .int bt, .int (bI cl), .int cd, .int c3.1, .int c3.2.1, .int c3.2.2, .ref mne, .int nx, .int w3.1, .int w3.2.1, .int w3.2.2, .ref mina, .int gv, .ref mrl, .ref mra, .int lns, .int ps, .int st, .int (bI tu)])), (mra, .inl (cZ, wd, .inl (fun jz => bI (rab jz))))] sz) := by
  refine Met.ofW (cc := b_Model_dots) (maxL := 8) (ret := (some .long)) (by decide) rfl ?_
  intro p e s m args below meth c s₁ B hml hv
  obtain ⟨rfl, hsz, hP, hK, hD0⟩ := hv
  have hx := B.exec
  have hb := B.bytes
  have hr := B.returns
  have hts := atoms_spec (ws := w_Model_dots) B.pre
  have hw : ∀ w ∈ WA, w.before _ s = true := fun w h => hts w (List.mem_cons_of_mem _ h)
  have hown : s.vm.findClass R_Model = some m.cls := findClass_of_methodNamed B.named
  have hlocks := B.notSynchronized
  subst hsz
  have hD := hD0.self (sz := s.heap.size)
  generalize hAe : va_A [(mm, .inr (7, [.ref mwr, .ref mbr, .ref mwb, .ref mbb, .ref mbl, .ref mmo, .int th, .int (nI wd), .ref mli, .ref mab, .ref mou, .int bt, .int (bI cl), .int cd, .int c3.1, .int c3.2.1, .int c3.2.2, .ref mne, .int nx, .int w3.1, .int w3.2.1, .int w3.2.2, .ref mina, .int gv, .ref mrl, .ref mra, .int lns, .int ps, .int st, .int (bI tu)])), (mra, .inl (cZ, wd, .inl (fun jz => bI (rab jz))))] s.heap.size = A at hD ⊢
  have hA : ∀ q : Nat, s.heap.size ≤ q → A q := fun q h => by rw [← hAe]; exact Or.inr h
  have hS : va_S A s.heap s.heap [] := va_S.rf
  have hP : va_P (dC, dI) classes [(mm, .inr (7, [.ref mwr, .ref mbr, .ref mwb, .ref mbb, .ref mbl, .ref mmo, .int th, .int (nI wd), .ref mli, .ref mab, .ref mou, .int bt, .int (bI cl), .int cd, .int c3.1, .int c3.2.1, .int c3.2.2, .ref mne, .int nx, .int w3.1, .int w3.2.1, .int w3.2.2, .ref mina, .int gv, .ref mrl, .ref mra, .int lns, .int ps, .int st, .int (bI tu)])), (mra, .inl (cZ, wd, .inl (fun jz => bI (rab jz))))] s.heap := hP
  have hl := lv_entry ([.ref mm, .int x]) (n := 8) (Nat.le_of_ble_eq_true rfl)
  rw [lg_entry_eq]
  generalize (lg_sl ([.ref mm, .int x]) ++ List.replicate (8 - (lg_sl ([.ref mm, .int x])).length) Slot.unset).toArray = ls at hl ⊢
  have hl : lv_has ls 8 [(0, .ref mm), (1, .int x)] := hl
  refine lv_aload_n hx hb d_Model_dots_0 rfl (lv_at hl 0 rfl) ?_
  refine lv_iconst (v := 0) hx hb d_Model_dots_1 (by decide) ?_
  refine va_put (D := (dC, dI)) (ci := 7) (v := .int 0) (ty := .int) (C := R_Model) (T := F_Model) (N := 30) hx hb hw i_Model t_Model t_Model_ok n_Model hown hK hP hD hS 0 rfl rfl 6 (by decide) (hw _ m_670) (fun _ h9 => h9) rfl (by decide +kernel) rfl rfl (Nat.le_of_ble_eq_true rfl) d_Model_dots_2 (fun H locs hP hD hS => ?_)
  have hP : va_P (dC, dI) classes [(mm, .inr (7, [.ref mwr, .ref mbr, .ref mwb, .ref mbb, .ref mbl, .ref mmo, .int 0, .int (nI wd), .ref mli, .ref mab, .ref mou, .int bt, .int (bI cl), .int cd, .int c3.1, .int c3.2.1, .int c3.2.2, .ref mne, .int nx, .int w3.1, .int w3.2.1, .int w3.2.2, .ref mina, .int gv, .ref mrl, .ref mra, .int lns, .int ps, .int st, .int (bI tu)])), (mra, .inl (cZ, wd, .inl (fun jz => bI (rab jz))))] H := hP
  have hD : va_D A [(mm, .inr (7, [.ref mwr, .ref mbr, .ref mwb, .ref mbb, .ref mbl, .ref mmo, .int 0, .int (nI wd), .ref mli, .ref mab, .ref mou, .int bt, .int (bI cl), .int cd, .int c3.1, .int c3.2.1, .int c3.2.2, .ref mne, .int nx, .int w3.1, .int w3.2.1, .int w3.2.2, .ref mina, .int gv, .ref mrl, .ref mra, .int lns, .int ps, .int st, .int (bI tu)])), (mra, .inl (cZ, wd, .inl (fun jz => bI (rab jz))))] := hD
  refine lv_lconst (v := 0) hx hb d_Model_dots_5 (by decide) ?_
  refine lv_lstore_n (lv' := [(2, .long 0), (0, .ref mm), (1, .int x)]) hx hb d_Model_dots_6 rfl hl (by decide) rfl (fun ls hl => ?_)
  refine lv_iconst (v := 0) hx hb d_Model_dots_7 (by decide) ?_
  refine lv_istore (lv' := [(4, .int 0), (2, .long 0), (0, .ref mm), (1, .int x)]) hx hb d_Model_dots_8 hl (by decide) rfl (fun ls hl => ?_)
  have hF9 : f_Model_dots wd rab th x = l_Model_dots_10 wd rab th x (((64 : Int32).toInt - Int32.toInt (0 : Int32)).toNat + 1) (0 : Int64) (0 : Int32) (0 : Int32) := (by exact (rfl))
  have hI9 : True := (by trivial)
  have hP9 := hP.sub (ws' := [(mm, .inr (7, [.ref mwr, .ref mbr, .ref mwb, .ref mbb, .ref mbl, .ref mmo, .int 0, .int (nI wd), .ref mli, .ref mab, .ref mou, .int bt, .int (bI cl), .int cd, .int c3.1, .int c3.2.1, .int c3.2.2, .ref mne, .int nx, .int w3.1, .int w3.2.1, .int w3.2.2, .ref mina, .int gv, .ref mrl, .ref mra, .int lns, .int ps, .int st, .int (bI tu)])), (mra, .inl (cZ, wd, .inl (fun jz => bI (rab jz))))]) [0, 1] rfl
  have hD9 := hD.sub (ws' := [(mm, .inr (7, [.ref mwr, .ref mbr, .ref mwb, .ref mbb, .ref mbl, .ref mmo, .int 0, .int (nI wd), .ref mli, .ref mab, .ref mou, .int bt, .int (bI cl), .int cd, .int c3.1, .int c3.2.1, .int c3.2.2, .ref mne, .int nx, .int w3.1, .int w3.2.1, .int w3.2.2, .ref mina, .int gv, .ref mrl, .ref mra, .int lns, .int ps, .int st, .int (bI tu)])), (mra, .inl (cZ, wd, .inl (fun jz => bI (rab jz))))]) [0, 1] (by decide) rfl
  have hl9 := lv_sub (l' := [(4, .int 0), (2, .long 0), (0, .ref mm), (1, .int x)]) hl [0, 1, 2, 3] rfl
  refine lp_n (pc := 10) (σ := Int64 × Int32 × Int32) (I := fun nQ vQ H locs ls => ((64 : Int32).toInt - Int32.toInt vQ.2.1).toNat < nQ ∧ f_Model_dots wd rab th x = l_Model_dots_10 wd rab th x nQ vQ.1 vQ.2.1 vQ.2.2 ∧ (True) ∧ va_P (dC, dI) classes [(mm, .inr (7, [.ref mwr, .ref mbr, .ref mwb, .ref mbb, .ref mbl, .ref mmo, .int vQ.2.2, .int (nI wd), .ref mli, .ref mab, .ref mou, .int bt, .int (bI cl), .int cd, .int c3.1, .int c3.2.1, .int c3.2.2, .ref mne, .int nx, .int w3.1, .int w3.2.1, .int w3.2.2, .ref mina, .int gv, .ref mrl, .ref mra, .int lns, .int ps, .int st, .int (bI tu)])), (mra, .inl (cZ, wd, .inl (fun jz => bI (rab jz))))] H ∧ va_D A [(mm, .inr (7, [.ref mwr, .ref mbr, .ref mwb, .ref mbb, .ref mbl, .ref mmo, .int vQ.2.2, .int (nI wd), .ref mli, .ref mab, .ref mou, .int bt, .int (bI cl), .int cd, .int c3.1, .int c3.2.1, .int c3.2.2, .ref mne, .int nx, .int w3.1, .int w3.2.1, .int w3.2.2, .ref mina, .int gv, .ref mrl, .ref mra, .int lns, .int ps, .int st, .int (bI tu)])), (mra, .inl (cZ, wd, .inl (fun jz => bI (rab jz))))] ∧ va_S A s.heap H locs ∧ lv_has ls 8 [(4, .int vQ.2.1), (2, .long vQ.1), (0, .ref mm), (1, .int x)]) (fun vQ H locs ls h => absurd h.1 (Nat.not_lt_zero _)) ?_ (((64 : Int32).toInt - Int32.toInt (0 : Int32)).toNat + 1) ((0 : Int64), (0 : Int32), (0 : Int32)) _ _ _ ⟨Nat.lt_succ_self _, hF9, hI9, hP9, hD9, hS, hl9⟩
  intro n10 ih10 vQ H locs ls hI
  obtain ⟨y, i, zth⟩ := vQ
  obtain ⟨hmu10, hF10, hinv, hP, hD, hS, hl⟩ := hI
  have hinv : True := hinv
  have hmu10 : ((64 : Int32).toInt - Int32.toInt i).toNat < n10 + 1 := hmu10
  have hF10 : f_Model_dots wd rab th x = l_Model_dots_10 wd rab th x (n10 + 1) y i zth := hF10
  have hP : va_P (dC, dI) classes [(mm, .inr (7, [.ref mwr, .ref mbr, .ref mwb, .ref mbb, .ref mbl, .ref mmo, .int zth, .int (nI wd), .ref mli, .ref mab, .ref mou, .int bt, .int (bI cl), .int cd, .int c3.1, .int c3.2.1, .int c3.2.2, .ref mne, .int nx, .int w3.1, .int w3.2.1, .int w3.2.2, .ref mina, .int gv, .ref mrl, .ref mra, .int lns, .int ps, .int st, .int (bI tu)])), (mra, .inl (cZ, wd, .inl (fun jz => bI (rab jz))))] H := hP
  have hD : va_D A [(mm, .inr (7, [.ref mwr, .ref mbr, .ref mwb, .ref mbb, .ref mbl, .ref mmo, .int zth, .int (nI wd), .ref mli, .ref mab, .ref mou, .int bt, .int (bI cl), .int cd, .int c3.1, .int c3.2.1, .int c3.2.2, .ref mne, .int nx, .int w3.1, .int w3.2.1, .int w3.2.2, .ref mina, .int gv, .ref mrl, .ref mra, .int lns, .int ps, .int st, .int (bI tu)])), (mra, .inl (cZ, wd, .inl (fun jz => bI (rab jz))))] := hD
  have hl : lv_has ls 8 [(4, .int i), (2, .long y), (0, .ref mm), (1, .int x)] := hl
  refine lv_iload hx hb d_Model_dots_10 (lv_at hl 0 rfl) ?_
  refine lv_bipush (v := 64) hx hb d_Model_dots_12 (by decide) ?_
  refine lv_icmp_ge (tgt := 95) hx hb d_Model_dots_14 (by decide) (fun c_1 => ?_) (fun c_1 => ?_)
  · refine lv_lload_n hx hb d_Model_dots_95 rfl (lv_at hl 1 rfl) ?_
    have hP9 := hP.sub (ws' := [(mm, .inr (7, [.ref mwr, .ref mbr, .ref mwb, .ref mbb, .ref mbl, .ref mmo, .int zth, .int (nI wd), .ref mli, .ref mab, .ref mou, .int bt, .int (bI cl), .int cd, .int c3.1, .int c3.2.1, .int c3.2.2, .ref mne, .int nx, .int w3.1, .int w3.2.1, .int w3.2.2, .ref mina, .int gv, .ref mrl, .ref mra, .int lns, .int ps, .int st, .int (bI tu)])), (mra, .inl (cZ, wd, .inl (fun jz => bI (rab jz))))]) [0, 1] rfl
    have hD9 := hD.sub (ws' := [(mm, .inr (7, [.ref mwr, .ref mbr, .ref mwb, .ref mbb, .ref mbl, .ref mmo, .int zth, .int (nI wd), .ref mli, .ref mab, .ref mou, .int bt, .int (bI cl), .int cd, .int c3.1, .int c3.2.1, .int c3.2.2, .ref mne, .int nx, .int w3.1, .int w3.2.1, .int w3.2.2, .ref mina, .int gv, .ref mrl, .ref mra, .int lns, .int ps, .int st, .int (bI tu)])), (mra, .inl (cZ, wd, .inl (fun jz => bI (rab jz))))]) [0, 1] (by decide) rfl
    have hK9 := hK
    exact W.lret (v := y) hx hb hr (fun t ht hW => ⟨⟨y, zth, rfl, (by have h9 : f_Model_dots wd rab th x = (y, zth) := (by exact (hF10.trans ((if_pos c_1).trans (rfl)))); exact ⟨(congrArg Prod.fst h9).symm, (congrArg Prod.snd h9).symm⟩), ⟨by rw [ht]; exact hP9, va_K.moved hW.alike hK9, hD9⟩⟩, hS.F ht⟩) hS.2.2 d_Model_dots_96
  · refine lv_ldc2 (v := 64) hx hb hown (hw _ m_881) d_Model_dots_17 ?_
    refine lv_iload_n hx hb d_Model_dots_20 rfl (lv_at hl 3 rfl) ?_
    refine lv_i2l hx hb d_Model_dots_21 rfl ?_
    refine lv_lmul hx hb d_Model_dots_22 ?_
    refine lv_iload hx hb d_Model_dots_23 (lv_at hl 0 rfl) ?_
    refine lv_i2l hx hb d_Model_dots_25 rfl ?_
    refine lv_ladd hx hb d_Model_dots_26 ?_
    refine lv_topl (fun x_2 ex_2 => ?_)
    replace ex_2 := ex_2.symm
    refine lv_lstore (lv' := [(5, .long x_2), (4, .int i), (2, .long y), (0, .ref mm), (1, .int x)]) hx hb d_Model_dots_27 hl (by decide) rfl (fun ls hl => ?_)
    refine lv_lload hx hb d_Model_dots_29 (lv_at hl 0 rfl) ?_
    refine lv_lconst (v := 0) hx hb d_Model_dots_31 (by decide) ?_
    refine W.lcmp hx hb d_Model_dots_32 ?_
    refine lv_if_lt (tgt := 51) hx hb d_Model_dots_33 (by decide) (fun c_3 => ?_) (fun c_3 => ?_)
    · refine lv_iconst (v := 0) hx hb d_Model_dots_51 (by decide) ?_
      refine lv_istore (lv' := [(7, .int 0), (5, .long x_2), (4, .int i), (2, .long y), (0, .ref mm), (1, .int x)]) hx hb d_Model_dots_52 hl (by decide) rfl (fun ls hl => ?_)
      refine lv_lload_n hx hb d_Model_dots_54 rfl (lv_at hl 3 rfl) ?_
      refine lv_iconst (v := 1) hx hb d_Model_dots_55 (by decide) ?_
      refine lv_lshl hx hb d_Model_dots_56 rfl ?_
      refine lv_iload hx hb d_Model_dots_57 (lv_at hl 0 rfl) ?_
      refine lv_if_eq (tgt := 86) hx hb d_Model_dots_59 (by decide) (fun c_4 => ?_) (fun c_4 => ?_)
      · refine lv_lconst (v := 0) hx hb d_Model_dots_86 (by decide) ?_
        refine lv_lor hx hb d_Model_dots_87 ?_
        refine lv_topl (fun x_5 ex_5 => ?_)
        replace ex_5 := ex_5.symm
        refine lv_lstore_n (lv' := [(2, .long x_5), (7, .int 0), (5, .long x_2), (4, .int i), (0, .ref mm), (1, .int x)]) hx hb d_Model_dots_88 rfl hl (by decide) rfl (fun ls hl => ?_)
        obtain ⟨x_6, ex_6⟩ : ∃ y : Int32, y = i + 1 := ⟨_, rfl⟩
        refine lv_iinc (v := x_6) (lv' := [(4, .int x_6), (2, .long x_5), (7, .int 0), (5, .long x_2), (0, .ref mm), (1, .int x)]) hx hb d_Model_dots_89 hl (k := 3) rfl (by rw [ex_6]; rfl) (by decide) rfl (fun ls hl => ?_)
        replace ex_6 := ex_6.symm
        refine lv_goto (tgt := 10) hx hb d_Model_dots_92 (by decide) ?_
        have hF9 : f_Model_dots wd rab th x = l_Model_dots_10 wd rab th x n10 x_5 x_6 zth := (by subst ex_2 ex_5 ex_6; exact (hF10.trans ((if_neg c_1).trans ((if_pos c_3).trans (rfl)))))
        have hI9 : True := (by subst ex_2 ex_5 ex_6; trivial)
        have hP9 := hP.sub (ws' := [(mm, .inr (7, [.ref mwr, .ref mbr, .ref mwb, .ref mbb, .ref mbl, .ref mmo, .int zth, .int (nI wd), .ref mli, .ref mab, .ref mou, .int bt, .int (bI cl), .int cd, .int c3.1, .int c3.2.1, .int c3.2.2, .ref mne, .int nx, .int w3.1, .int w3.2.1, .int w3.2.2, .ref mina, .int gv, .ref mrl, .ref mra, .int lns, .int ps, .int st, .int (bI tu)])), (mra, .inl (cZ, wd, .inl (fun jz => bI (rab jz))))]) [0, 1] rfl
        have hD9 := hD.sub (ws' := [(mm, .inr (7, [.ref mwr, .ref mbr, .ref mwb, .ref mbb, .ref mbl, .ref mmo, .int zth, .int (nI wd), .ref mli, .ref mab, .ref mou, .int bt, .int (bI cl), .int cd, .int c3.1, .int c3.2.1, .int c3.2.2, .ref mne, .int nx, .int w3.1, .int w3.2.1, .int w3.2.2, .ref mina, .int gv, .ref mrl, .ref mra, .int lns, .int ps, .int st, .int (bI tu)])), (mra, .inl (cZ, wd, .inl (fun jz => bI (rab jz))))]) [0, 1] (by decide) rfl
        have hl9 := lv_sub (l' := [(4, .int x_6), (2, .long x_5), (0, .ref mm), (1, .int x)]) hl [0, 1, 4, 5] rfl
        have hm9 : ((64 : Int32).toInt - Int32.toInt x_6).toNat < ((64 : Int32).toInt - Int32.toInt i).toNat := (by subst ex_2 ex_5 ex_6; exact mu_b c_1)
        exact ih10 (x_5, x_6, zth) _ _ _ ⟨Nat.lt_of_lt_of_le hm9 (Nat.le_of_lt_succ hmu10), hF9, hI9, hP9, hD9, hS, hl9⟩
      · exact absurd c_4 (by first | decide | assumption | exact not_not_intro (by assumption))
    · refine lv_lload hx hb d_Model_dots_36 (lv_at hl 0 rfl) ?_
      refine lv_aload_n hx hb d_Model_dots_38 rfl (lv_at hl 3 rfl) ?_
      refine va_get (D := (dC, dI)) (ci := 7) (v := .int (nI wd)) (C := R_Model) (T := F_Model) (N := 30) hx hb hw i_Model hown hK hP 0 rfl rfl 7 (by decide) (hw _ m_671) (fun _ h9 => h9) rfl d_Model_dots_39 ?_
      refine lv_i2l hx hb d_Model_dots_42 rfl ?_
      refine W.lcmp hx hb d_Model_dots_43 ?_
      refine lv_if_ge (tgt := 51) hx hb d_Model_dots_44 (by decide) (fun c_7 => ?_) (fun c_7 => ?_)
      · refine lv_iconst (v := 0) hx hb d_Model_dots_51 (by decide) ?_
        refine lv_istore (lv' := [(7, .int 0), (5, .long x_2), (4, .int i), (2, .long y), (0, .ref mm), (1, .int x)]) hx hb d_Model_dots_52 hl (by decide) rfl (fun ls hl => ?_)
        refine lv_lload_n hx hb d_Model_dots_54 rfl (lv_at hl 3 rfl) ?_
        refine lv_iconst (v := 1) hx hb d_Model_dots_55 (by decide) ?_
        refine lv_lshl hx hb d_Model_dots_56 rfl ?_
        refine lv_iload hx hb d_Model_dots_57 (lv_at hl 0 rfl) ?_
        refine lv_if_eq (tgt := 86) hx hb d_Model_dots_59 (by decide) (fun c_8 => ?_) (fun c_8 => ?_)
        · refine lv_lconst (v := 0) hx hb d_Model_dots_86 (by decide) ?_
          refine lv_lor hx hb d_Model_dots_87 ?_
          refine lv_topl (fun x_9 ex_9 => ?_)
          replace ex_9 := ex_9.symm
          refine lv_lstore_n (lv' := [(2, .long x_9), (7, .int 0), (5, .long x_2), (4, .int i), (0, .ref mm), (1, .int x)]) hx hb d_Model_dots_88 rfl hl (by decide) rfl (fun ls hl => ?_)
          obtain ⟨x_10, ex_10⟩ : ∃ y : Int32, y = i + 1 := ⟨_, rfl⟩
          refine lv_iinc (v := x_10) (lv' := [(4, .int x_10), (2, .long x_9), (7, .int 0), (5, .long x_2), (0, .ref mm), (1, .int x)]) hx hb d_Model_dots_89 hl (k := 3) rfl (by rw [ex_10]; rfl) (by decide) rfl (fun ls hl => ?_)
          replace ex_10 := ex_10.symm
          refine lv_goto (tgt := 10) hx hb d_Model_dots_92 (by decide) ?_
          have hF9 : f_Model_dots wd rab th x = l_Model_dots_10 wd rab th x n10 x_9 x_10 zth := (by subst ex_2 ex_9 ex_10; exact (hF10.trans ((if_neg c_1).trans ((if_neg c_3).trans ((if_pos c_7).trans (rfl))))))
          have hI9 : True := (by subst ex_2 ex_9 ex_10; trivial)
          have hP9 := hP.sub (ws' := [(mm, .inr (7, [.ref mwr, .ref mbr, .ref mwb, .ref mbb, .ref mbl, .ref mmo, .int zth, .int (nI wd), .ref mli, .ref mab, .ref mou, .int bt, .int (bI cl), .int cd, .int c3.1, .int c3.2.1, .int c3.2.2, .ref mne, .int nx, .int w3.1, .int w3.2.1, .int w3.2.2, .ref mina, .int gv, .ref mrl, .ref mra, .int lns, .int ps, .int st, .int (bI tu)])), (mra, .inl (cZ, wd, .inl (fun jz => bI (rab jz))))]) [0, 1] rfl
          have hD9 := hD.sub (ws' := [(mm, .inr (7, [.ref mwr, .ref mbr, .ref mwb, .ref mbb, .ref mbl, .ref mmo, .int zth, .int (nI wd), .ref mli, .ref mab, .ref mou, .int bt, .int (bI cl), .int cd, .int c3.1, .int c3.2.1, .int c3.2.2, .ref mne, .int nx, .int w3.1, .int w3.2.1, .int w3.2.2, .ref mina, .int gv, .ref mrl, .ref mra, .int lns, .int ps, .int st, .int (bI tu)])), (mra, .inl (cZ, wd, .inl (fun jz => bI (rab jz))))]) [0, 1] (by decide) rfl
          have hl9 := lv_sub (l' := [(4, .int x_10), (2, .long x_9), (0, .ref mm), (1, .int x)]) hl [0, 1, 4, 5] rfl
          have hm9 : ((64 : Int32).toInt - Int32.toInt x_10).toNat < ((64 : Int32).toInt - Int32.toInt i).toNat := (by subst ex_2 ex_9 ex_10; exact mu_b c_1)
          exact ih10 (x_9, x_10, zth) _ _ _ ⟨Nat.lt_of_lt_of_le hm9 (Nat.le_of_lt_succ hmu10), hF9, hI9, hP9, hD9, hS, hl9⟩
        · exact absurd c_8 (by first | decide | assumption | exact not_not_intro (by assumption))
      · refine lv_iconst (v := 1) hx hb d_Model_dots_47 (by decide) ?_
        refine lv_goto (tgt := 52) hx hb d_Model_dots_48 (by decide) ?_
        refine lv_istore (lv' := [(7, .int 1), (5, .long x_2), (4, .int i), (2, .long y), (0, .ref mm), (1, .int x)]) hx hb d_Model_dots_52 hl (by decide) rfl (fun ls hl => ?_)
        refine lv_lload_n hx hb d_Model_dots_54 rfl (lv_at hl 3 rfl) ?_
        refine lv_iconst (v := 1) hx hb d_Model_dots_55 (by decide) ?_
        refine lv_lshl hx hb d_Model_dots_56 rfl ?_
        refine lv_iload hx hb d_Model_dots_57 (lv_at hl 0 rfl) ?_
        refine lv_if_eq (tgt := 86) hx hb d_Model_dots_59 (by decide) (fun c_11 => ?_) (fun c_11 => ?_)
        · exact absurd c_11 (by first | decide | assumption | exact not_not_intro (by assumption))
        · refine lv_aload_n hx hb d_Model_dots_62 rfl (lv_at hl 4 rfl) ?_
          refine va_get (D := (dC, dI)) (ci := 7) (v := .ref mra) (C := R_Model) (T := F_Model) (N := 30) hx hb hw i_Model hown hK hP 0 rfl rfl 25 (by decide) (hw _ m_689) (fun _ h9 => h9) rfl d_Model_dots_63 ?_
          refine lv_iload hx hb d_Model_dots_66 (lv_at hl 0 rfl) ?_
          refine lv_if_eq (tgt := 77) hx hb d_Model_dots_68 (by decide) (fun c_12 => ?_) (fun c_12 => ?_)
          · exact absurd c_12 (by first | decide | assumption | exact not_not_intro (by assumption))
          · refine lv_lload hx hb d_Model_dots_71 (lv_at hl 1 rfl) ?_
            refine lv_l2i hx hb d_Model_dots_73 rfl ?_
            refine lv_goto (tgt := 78) hx hb d_Model_dots_74 (by decide) ?_
            refine va_zald hx hb hK hP 1 1 rfl rfl (ix_do hwd c_3 c_7) d_Model_dots_78 ?_
            refine lv_if_eq (tgt := 86) hx hb d_Model_dots_79 (by decide) (fun c_13 => ?_) (fun c_13 => ?_)
            · refine lv_lconst (v := 0) hx hb d_Model_dots_86 (by decide) ?_
              refine lv_lor hx hb d_Model_dots_87 ?_
              refine lv_topl (fun x_14 ex_14 => ?_)
              replace ex_14 := ex_14.symm
              refine lv_lstore_n (lv' := [(2, .long x_14), (7, .int 1), (5, .long x_2), (4, .int i), (0, .ref mm), (1, .int x)]) hx hb d_Model_dots_88 rfl hl (by decide) rfl (fun ls hl => ?_)
              obtain ⟨x_15, ex_15⟩ : ∃ y : Int32, y = i + 1 := ⟨_, rfl⟩
              refine lv_iinc (v := x_15) (lv' := [(4, .int x_15), (2, .long x_14), (7, .int 1), (5, .long x_2), (0, .ref mm), (1, .int x)]) hx hb d_Model_dots_89 hl (k := 3) rfl (by rw [ex_15]; rfl) (by decide) rfl (fun ls hl => ?_)
              replace ex_15 := ex_15.symm
              refine lv_goto (tgt := 10) hx hb d_Model_dots_92 (by decide) ?_
              have hF9 : f_Model_dots wd rab th x = l_Model_dots_10 wd rab th x n10 x_14 x_15 zth := (by subst ex_2 ex_14 ex_15; exact (hF10.trans ((if_neg c_1).trans ((if_neg c_3).trans ((if_neg c_7).trans ((if_pos c_13).trans (rfl)))))))
              have hI9 : True := (by subst ex_2 ex_14 ex_15; trivial)
              have hP9 := hP.sub (ws' := [(mm, .inr (7, [.ref mwr, .ref mbr, .ref mwb, .ref mbb, .ref mbl, .ref mmo, .int zth, .int (nI wd), .ref mli, .ref mab, .ref mou, .int bt, .int (bI cl), .int cd, .int c3.1, .int c3.2.1, .int c3.2.2, .ref mne, .int nx, .int w3.1, .int w3.2.1, .int w3.2.2, .ref mina, .int gv, .ref mrl, .ref mra, .int lns, .int ps, .int st, .int (bI tu)])), (mra, .inl (cZ, wd, .inl (fun jz => bI (rab jz))))]) [0, 1] rfl
              have hD9 := hD.sub (ws' := [(mm, .inr (7, [.ref mwr, .ref mbr, .ref mwb, .ref mbb, .ref mbl, .ref mmo, .int zth, .int (nI wd), .ref mli, .ref mab, .ref mou, .int bt, .int (bI cl), .int cd, .int c3.1, .int c3.2.1, .int c3.2.2, .ref mne, .int nx, .int w3.1, .int w3.2.1, .int w3.2.2, .ref mina, .int gv, .ref mrl, .ref mra, .int lns, .int ps, .int st, .int (bI tu)])), (mra, .inl (cZ, wd, .inl (fun jz => bI (rab jz))))]) [0, 1] (by decide) rfl
              have hl9 := lv_sub (l' := [(4, .int x_15), (2, .long x_14), (0, .ref mm), (1, .int x)]) hl [0, 1, 4, 5] rfl
              have hm9 : ((64 : Int32).toInt - Int32.toInt x_15).toNat < ((64 : Int32).toInt - Int32.toInt i).toNat := (by subst ex_2 ex_14 ex_15; exact mu_b c_1)
              exact ih10 (x_14, x_15, zth) _ _ _ ⟨Nat.lt_of_lt_of_le hm9 (Nat.le_of_lt_succ hmu10), hF9, hI9, hP9, hD9, hS, hl9⟩
            · refine lv_lconst (v := 1) hx hb d_Model_dots_82 (by decide) ?_
              refine lv_goto (tgt := 87) hx hb d_Model_dots_83 (by decide) ?_
              refine lv_lor hx hb d_Model_dots_87 ?_
              refine lv_topl (fun x_16 ex_16 => ?_)
              replace ex_16 := ex_16.symm
              refine lv_lstore_n (lv' := [(2, .long x_16), (7, .int 1), (5, .long x_2), (4, .int i), (0, .ref mm), (1, .int x)]) hx hb d_Model_dots_88 rfl hl (by decide) rfl (fun ls hl => ?_)
              obtain ⟨x_17, ex_17⟩ : ∃ y : Int32, y = i + 1 := ⟨_, rfl⟩
              refine lv_iinc (v := x_17) (lv' := [(4, .int x_17), (2, .long x_16), (7, .int 1), (5, .long x_2), (0, .ref mm), (1, .int x)]) hx hb d_Model_dots_89 hl (k := 3) rfl (by rw [ex_17]; rfl) (by decide) rfl (fun ls hl => ?_)
              replace ex_17 := ex_17.symm
              refine lv_goto (tgt := 10) hx hb d_Model_dots_92 (by decide) ?_
              have hF9 : f_Model_dots wd rab th x = l_Model_dots_10 wd rab th x n10 x_16 x_17 zth := (by subst ex_2 ex_16 ex_17; exact (hF10.trans ((if_neg c_1).trans ((if_neg c_3).trans ((if_neg c_7).trans ((if_neg c_13).trans (rfl)))))))
              have hI9 : True := (by subst ex_2 ex_16 ex_17; trivial)
              have hP9 := hP.sub (ws' := [(mm, .inr (7, [.ref mwr, .ref mbr, .ref mwb, .ref mbb, .ref mbl, .ref mmo, .int zth, .int (nI wd), .ref mli, .ref mab, .ref mou, .int bt, .int (bI cl), .int cd, .int c3.1, .int c3.2.1, .int c3.2.2, .ref mne, .int nx, .int w3.1, .int w3.2.1, .int w3.2.2, .ref mina, .int gv, .ref mrl, .ref mra, .int lns, .int ps, .int st, .int (bI tu)])), (mra, .inl (cZ, wd, .inl (fun jz => bI (rab jz))))]) [0, 1] rfl
              have hD9 := hD.sub (ws' := [(mm, .inr (7, [.ref mwr, .ref mbr, .ref mwb, .ref mbb, .ref mbl, .ref mmo, .int zth, .int (nI wd), .ref mli, .ref mab, .ref mou, .int bt, .int (bI cl), .int cd, .int c3.1, .int c3.2.1, .int c3.2.2, .ref mne, .int nx, .int w3.1, .int w3.2.1, .int w3.2.2, .ref mina, .int gv, .ref mrl, .ref mra, .int lns, .int ps, .int st, .int (bI tu)])), (mra, .inl (cZ, wd, .inl (fun jz => bI (rab jz))))]) [0, 1] (by decide) rfl
              have hl9 := lv_sub (l' := [(4, .int x_17), (2, .long x_16), (0, .ref mm), (1, .int x)]) hl [0, 1, 4, 5] rfl
              have hm9 : ((64 : Int32).toInt - Int32.toInt x_17).toNat < ((64 : Int32).toInt - Int32.toInt i).toNat := (by subst ex_2 ex_16 ex_17; exact mu_b c_1)
              exact ih10 (x_16, x_17, zth) _ _ _ ⟨Nat.lt_of_lt_of_le hm9 (Nat.le_of_lt_succ hmu10), hF9, hI9, hP9, hD9, hS, hl9⟩
def l_Model_change_9 (wd : Nat) (rab : Nat → Bool) (th : Int32) (x : Int32) : Nat → Int32 → Int32 → Int32 → Int32 × Int32
  | 0, _, _, _ => default
  | n9 + 1, n, k, zth => if (nI wd) ≤ k then (if x = (-1) then ((n, zth)) else (((-1), zth))) else (if k ≤ 0 then (if (bI (rab k.toNatClampNeg)) = 0 then (let x_5 := k + 1; l_Model_change_9 wd rab th x n9 n x_5 zth) else (if n = x then ((k, zth)) else (let x_7 := n + 1; let x_8 := k + 1; l_Model_change_9 wd rab th x n9 x_7 x_8 zth))) else (if (bI (rab (k - 1).toNatClampNeg)) = 0 then (if (bI (rab k.toNatClampNeg)) = 0 then (let x_12 := k + 1; l_Model_change_9 wd rab th x n9 n x_12 zth) else (if n = x then ((k, zth)) else (let x_14 := n + 1; let x_15 := k + 1; l_Model_change_9 wd rab th x n9 x_14 x_15 zth))) else (if (bI (rab k.toNatClampNeg)) = 1 then (let x_17 := k + 1; l_Model_change_9 wd rab th x n9 n x_17 zth) else (if n = x then ((k, zth)) else (let x_19 := n + 1; let x_20 := k + 1; l_Model_change_9 wd rab th x n9 x_19 x_20 zth)))))
def f_Model_change (wd : Nat) (rab : Nat → Bool) (th : Int32) (x : Int32) : Int32 × Int32 := l_Model_change_9 wd rab th x (((nI wd).toInt - Int32.toInt (0 : Int32)).toNat + 1) (0 : Int32) (0 : Int32) (0 : Int32)
set_option maxHeartbeats 4000000 in
set_option maxRecDepth 100000 in
theorem c_Model_change (l : Launch) (dC : Nat → ClassId) (dI : Nat → Nat → Nat) (cI cZ : ClassId) (mm : Nat) (mwr : Nat) (mbr : Nat) (mwb : Nat) (mbb : Nat) (mbl : Nat) (mmo : Nat) (mli : Nat) (mab : Nat) (mou : Nat) (mne : Nat) (mina : Nat) (mrl : Nat) (mra : Nat) (wd : Nat) (bt : Int32) (cl : Bool) (cd : Int32) (c3 : Int32 × Int32 × Int32) (nx : Int32) (w3 : Int32 × Int32 × Int32) (gv : Int32) (lns : Int32) (ps : Int32) (st : Int32) (tu : Bool) (rab : Nat → Bool) (sz : Nat) (th : Int32) (x : Int32) (hwd : wd ≤ 10000) : Met l y_Model_change w_Model_change ({ frames := 0, cells := 0, slots := 0, locals := 0 }) (va_Pc [.ref mm, .int x] (fun U => U.heap.size = sz ∧ va_P (dC, dI) classes [(mm, .inr (7, [.ref mwr, .ref mbr, .ref mwb, .ref mbb, .ref mbl, .ref mmo, .int th, .int (nI wd), .ref mli, .ref mab, .ref mou, .int bt, .int (bI cl), .int cd, .int c3.1, .int c3.2.1, .int c3.2.2, .ref mne, .int nx, .int w3.1, .int w3.2.1, .int w3.2.2, .ref mina, .int gv, .ref mrl, .ref mra, .int lns, .int ps, .int st, .int (bI tu)])), (mra, .inl (cZ, wd, .inl (fun jz => bI (rab jz))))] U.heap ∧ va_K (dC, dI) classes [(cI, .int), (cZ, .boolean)] U ∧ va_D (fun _ => True) [(mm, .inr (7, [.ref mwr, .ref mbr, .ref mwb, .ref mbb, .ref mbl, .ref mmo, .int th, .int (nI wd), .ref mli, .ref mab, .ref mou, .int bt, .int (bI cl), .int cd, .int c3.1, .int c3.2.1, .int c3.2.2, .ref mne, .int nx, .int w3.1, .int w3.2.1, .int w3.2.2, .ref mina, .int gv, .ref mrl, .ref mra, .int lns, .int ps, .int st, .int (bI tu)])), (mra, .inl (cZ, wd, .inl (fun jz => bI (rab jz))))])) (va_Qi (fun (r : Int32) (u : Int32) => r = (f_Model_change wd rab th x).1 ∧ u = (f_Model_change wd rab th x).2) (fun (u : Int32) (t : State) => va_P (dC, dI) classes [(mm, .inr (7, [.ref mwr, .ref mbr, .ref mwb, .ref mbb, .ref mbl, .ref mmo, .int u, .int (nI wd), .ref mli, .ref mab, .ref mou, .int bt, .int (bI cl), .int cd, .int c3.1, .int c3.2.1, .int c3.2.2, .ref mne, .int nx, .int w3.1, .int w3.2.1, .int w3.2.2, .ref mina, .int gv, .ref mrl, .ref mra, .int lns, .int ps, .int st, .int (bI tu)])), (mra, .inl (cZ, wd, .inl (fun jz => bI (rab jz))))] t.heap ∧ va_K (dC, dI) classes [(cI, .int), (cZ, .boolean)] t ∧ va_D (va_A [(mm, .inr (7, [.ref mwr, .ref mbr, .ref mwb, .ref mbb, .ref mbl, .ref mmo, .int th, .int (nI wd), .ref mli, .ref mab, .ref mou, .int bt, .int (bI cl), .int cd, .int c3.1, .int c3.2.1, .int c3.2.2, .ref mne, .int nx, .int w3.1, .int w3.2.1, .int w3.2.2, .ref mina, .int gv, .ref mrl, .ref mra, .int lns, .int ps, .int st, .int (bI tu)])), (mra, .inl (cZ, wd, .inl (fun jz => bI (rab jz))))] sz) [(mm, .inr (7, [.ref mwr, .ref mbr, .ref mwb, .ref mbb, .ref mbl, .ref mmo, .int u, .int (nI wd), .ref mli, .ref mab, .ref mou, .int bt, .int (bI cl), .int cd, .int c3.1, .int c3.2.1, .int c3.2.2, .ref mne, .int nx, .int w3.1, .int w3.2.1, .int w3.2.2, .ref mina, .int gv, .ref mrl, .ref mra, .int lns, .int ps, .int st, .int (bI tu)])), (mra, .inl (cZ, wd, .inl (fun jz => bI (rab jz))))]) (va_A [(mm, .inr (7, [.ref mwr, .ref mbr, .ref mwb, .ref mbb, .ref mbl, .ref mmo, .int th, .int (nI wd), .ref mli, .ref mab, .ref mou, .int bt, .int (bI cl), .int cd, .int c3.1, .int c3.2.1, .int c3.2.2, .ref mne, .int nx, .int w3.1, .int w3.2.1, .int w3.2.2, .ref mina, .int gv, .ref mrl, .ref mra, .int lns, .int ps, .int st, .int (bI tu)])), (mra, .inl (cZ, wd, .inl (fun jz => bI (rab jz))))] sz)) 0 0 (va_A [(mm, .inr (7, [.ref mwr, .ref mbr, .ref mwb, .ref mbb, .ref mbl, .ref mmo, .int th, .int (nI wd), .ref mli, .ref mab, .ref mou, .int bt, .int (bI cl), .int cd, .int c3.1, .int c3.2.1, .int c3.2.2, .ref mne, .int nx, .int w3.1, .int w3.2.1, .int w3.2.2, .ref mina, .int gv, .ref mrl, .ref mra, .int lns, .int ps, .int st, .int (bI tu)])), (mra, .inl (cZ, wd, .inl (fun jz => bI (rab jz))))] sz) := by
  refine Met.ofW (cc := b_Model_change) (maxL := 5) (ret := (some .int)) (by decide) rfl ?_
  intro p e s m args below meth c s₁ B hml hv
  obtain ⟨rfl, hsz, hP, hK, hD0⟩ := hv
  have hx := B.exec
  have hb := B.bytes
  have hr := B.returns
  have hts := atoms_spec (ws := w_Model_change) B.pre
  have hw : ∀ w ∈ WA, w.before _ s = true := fun w h => hts w (List.mem_cons_of_mem _ h)
  have hown : s.vm.findClass R_Model = some m.cls := findClass_of_methodNamed B.named
  have hlocks := B.notSynchronized
  subst hsz
  have hD := hD0.self (sz := s.heap.size)
  generalize hAe : va_A [(mm, .inr (7, [.ref mwr, .ref mbr, .ref mwb, .ref mbb, .ref mbl, .ref mmo, .int th, .int (nI wd), .ref mli, .ref mab, .ref mou, .int bt, .int (bI cl), .int cd, .int c3.1, .int c3.2.1, .int c3.2.2, .ref mne, .int nx, .int w3.1, .int w3.2.1, .int w3.2.2, .ref mina, .int gv, .ref mrl, .ref mra, .int lns, .int ps, .int st, .int (bI tu)])), (mra, .inl (cZ, wd, .inl (fun jz => bI (rab jz))))] s.heap.size = A at hD ⊢
  have hA : ∀ q : Nat, s.heap.size ≤ q → A q := fun q h => by rw [← hAe]; exact Or.inr h
  have hS : va_S A s.heap s.heap [] := va_S.rf
  have hP : va_P (dC, dI) classes [(mm, .inr (7, [.ref mwr, .ref mbr, .ref mwb, .ref mbb, .ref mbl, .ref mmo, .int th, .int (nI wd), .ref mli, .ref mab, .ref mou, .int bt, .int (bI cl), .int cd, .int c3.1, .int c3.2.1, .int c3.2.2, .ref mne, .int nx, .int w3.1, .int w3.2.1, .int w3.2.2, .ref mina, .int gv, .ref mrl, .ref mra, .int lns, .int ps, .int st, .int (bI tu)])), (mra, .inl (cZ, wd, .inl (fun jz => bI (rab jz))))] s.heap := hP
  have hl := lv_entry ([.ref mm, .int x]) (n := 5) (Nat.le_of_ble_eq_true rfl)
  rw [lg_entry_eq]
  generalize (lg_sl ([.ref mm, .int x]) ++ List.replicate (5 - (lg_sl ([.ref mm, .int x])).length) Slot.unset).toArray = ls at hl ⊢
  have hl : lv_has ls 5 [(0, .ref mm), (1, .int x)] := hl
  refine lv_aload_n hx hb d_Model_change_0 rfl (lv_at hl 0 rfl) ?_
  refine lv_iconst (v := 0) hx hb d_Model_change_1 (by decide) ?_
  refine va_put (D := (dC, dI)) (ci := 7) (v := .int 0) (ty := .int) (C := R_Model) (T := F_Model) (N := 30) hx hb hw i_Model t_Model t_Model_ok n_Model hown hK hP hD hS 0 rfl rfl 6 (by decide) (hw _ m_670) (fun _ h9 => h9) rfl (by decide +kernel) rfl rfl (Nat.le_of_ble_eq_true rfl) d_Model_change_2 (fun H locs hP hD hS => ?_)
  have hP : va_P (dC, dI) classes [(mm, .inr (7, [.ref mwr, .ref mbr, .ref mwb, .ref mbb, .ref mbl, .ref mmo, .int 0, .int (nI wd), .ref mli, .ref mab, .ref mou, .int bt, .int (bI cl), .int cd, .int c3.1, .int c3.2.1, .int c3.2.2, .ref mne, .int nx, .int w3.1, .int w3.2.1, .int w3.2.2, .ref mina, .int gv, .ref mrl, .ref mra, .int lns, .int ps, .int st, .int (bI tu)])), (mra, .inl (cZ, wd, .inl (fun jz => bI (rab jz))))] H := hP
  have hD : va_D A [(mm, .inr (7, [.ref mwr, .ref mbr, .ref mwb, .ref mbb, .ref mbl, .ref mmo, .int 0, .int (nI wd), .ref mli, .ref mab, .ref mou, .int bt, .int (bI cl), .int cd, .int c3.1, .int c3.2.1, .int c3.2.2, .ref mne, .int nx, .int w3.1, .int w3.2.1, .int w3.2.2, .ref mina, .int gv, .ref mrl, .ref mra, .int lns, .int ps, .int st, .int (bI tu)])), (mra, .inl (cZ, wd, .inl (fun jz => bI (rab jz))))] := hD
  refine lv_iconst (v := 0) hx hb d_Model_change_5 (by decide) ?_
  refine lv_istore_n (lv' := [(2, .int 0), (0, .ref mm), (1, .int x)]) hx hb d_Model_change_6 rfl hl (by decide) rfl (fun ls hl => ?_)
  refine lv_iconst (v := 0) hx hb d_Model_change_7 (by decide) ?_
  refine lv_istore_n (lv' := [(3, .int 0), (2, .int 0), (0, .ref mm), (1, .int x)]) hx hb d_Model_change_8 rfl hl (by decide) rfl (fun ls hl => ?_)
  have hF9 : f_Model_change wd rab th x = l_Model_change_9 wd rab th x (((nI wd).toInt - Int32.toInt (0 : Int32)).toNat + 1) (0 : Int32) (0 : Int32) (0 : Int32) := (by exact (rfl))
  have hI9 : ¬ (0 : Int32) < 0 := (by decide)
  have hP9 := hP.sub (ws' := [(mm, .inr (7, [.ref mwr, .ref mbr, .ref mwb, .ref mbb, .ref mbl, .ref mmo, .int 0, .int (nI wd), .ref mli, .ref mab, .ref mou, .int bt, .int (bI cl), .int cd, .int c3.1, .int c3.2.1, .int c3.2.2, .ref mne, .int nx, .int w3.1, .int w3.2.1, .int w3.2.2, .ref mina, .int gv, .ref mrl, .ref mra, .int lns, .int ps, .int st, .int (bI tu)])), (mra, .inl (cZ, wd, .inl (fun jz => bI (rab jz))))]) [0, 1] rfl
  have hD9 := hD.sub (ws' := [(mm, .inr (7, [.ref mwr, .ref mbr, .ref mwb, .ref mbb, .ref mbl, .ref mmo, .int 0, .int (nI wd), .ref mli, .ref mab, .ref mou, .int bt, .int (bI cl), .int cd, .int c3.1, .int c3.2.1, .int c3.2.2, .ref mne, .int nx, .int w3.1, .int w3.2.1, .int w3.2.2, .ref mina, .int gv, .ref mrl, .ref mra, .int lns, .int ps, .int st, .int (bI tu)])), (mra, .inl (cZ, wd, .inl (fun jz => bI (rab jz))))]) [0, 1] (by decide) rfl
  have hl9 := lv_sub (l' := [(3, .int 0), (2, .int 0), (0, .ref mm), (1, .int x)]) hl [0, 1, 2, 3] rfl
  refine lp_n (pc := 9) (σ := Int32 × Int32 × Int32) (I := fun nQ vQ H locs ls => ((nI wd).toInt - Int32.toInt vQ.2.1).toNat < nQ ∧ f_Model_change wd rab th x = l_Model_change_9 wd rab th x nQ vQ.1 vQ.2.1 vQ.2.2 ∧ (¬ vQ.2.1 < 0) ∧ va_P (dC, dI) classes [(mm, .inr (7, [.ref mwr, .ref mbr, .ref mwb, .ref mbb, .ref mbl, .ref mmo, .int vQ.2.2, .int (nI wd), .ref mli, .ref mab, .ref mou, .int bt, .int (bI cl), .int cd, .int c3.1, .int c3.2.1, .int c3.2.2, .ref mne, .int nx, .int w3.1, .int w3.2.1, .int w3.2.2, .ref mina, .int gv, .ref mrl, .ref mra, .int lns, .int ps, .int st, .int (bI tu)])), (mra, .inl (cZ, wd, .inl (fun jz => bI (rab jz))))] H ∧ va_D A [(mm, .inr (7, [.ref mwr, .ref mbr, .ref mwb, .ref mbb, .ref mbl, .ref mmo, .int vQ.2.2, .int (nI wd), .ref mli, .ref mab, .ref mou, .int bt, .int (bI cl), .int cd, .int c3.1, .int c3.2.1, .int c3.2.2, .ref mne, .int nx, .int w3.1, .int w3.2.1, .int w3.2.2, .ref mina, .int gv, .ref mrl, .ref mra, .int lns, .int ps, .int st, .int (bI tu)])), (mra, .inl (cZ, wd, .inl (fun jz => bI (rab jz))))] ∧ va_S A s.heap H locs ∧ lv_has ls 5 [(3, .int vQ.2.1), (2, .int vQ.1), (0, .ref mm), (1, .int x)]) (fun vQ H locs ls h => absurd h.1 (Nat.not_lt_zero _)) ?_ (((nI wd).toInt - Int32.toInt (0 : Int32)).toNat + 1) ((0 : Int32), (0 : Int32), (0 : Int32)) _ _ _ ⟨Nat.lt_succ_self _, hF9, hI9, hP9, hD9, hS, hl9⟩
  intro n9 ih9 vQ H locs ls hI
  obtain ⟨n, k, zth⟩ := vQ
  obtain ⟨hmu9, hF9, hinv, hP, hD, hS, hl⟩ := hI
  have hinv : ¬ k < 0 := hinv
  have hmu9 : ((nI wd).toInt - Int32.toInt k).toNat < n9 + 1 := hmu9
  have hF9 : f_Model_change wd rab th x = l_Model_change_9 wd rab th x (n9 + 1) n k zth := hF9
  have hinv : ¬ k < 0 := hinv
  have hP : va_P (dC, dI) classes [(mm, .inr (7, [.ref mwr, .ref mbr, .ref mwb, .ref mbb, .ref mbl, .ref mmo, .int zth, .int (nI wd), .ref mli, .ref mab, .ref mou, .int bt, .int (bI cl), .int cd, .int c3.1, .int c3.2.1, .int c3.2.2, .ref mne, .int nx, .int w3.1, .int w3.2.1, .int w3.2.2, .ref mina, .int gv, .ref mrl, .ref mra, .int lns, .int ps, .int st, .int (bI tu)])), (mra, .inl (cZ, wd, .inl (fun jz => bI (rab jz))))] H := hP
  have hD : va_D A [(mm, .inr (7, [.ref mwr, .ref mbr, .ref mwb, .ref mbb, .ref mbl, .ref mmo, .int zth, .int (nI wd), .ref mli, .ref mab, .ref mou, .int bt, .int (bI cl), .int cd, .int c3.1, .int c3.2.1, .int c3.2.2, .ref mne, .int nx, .int w3.1, .int w3.2.1, .int w3.2.2, .ref mina, .int gv, .ref mrl, .ref mra, .int lns, .int ps, .int st, .int (bI tu)])), (mra, .inl (cZ, wd, .inl (fun jz => bI (rab jz))))] := hD
  have hl : lv_has ls 5 [(3, .int k), (2, .int n), (0, .ref mm), (1, .int x)] := hl
  refine lv_iload_n hx hb d_Model_change_9 rfl (lv_at hl 0 rfl) ?_
  refine lv_aload_n hx hb d_Model_change_10 rfl (lv_at hl 2 rfl) ?_
  refine va_get (D := (dC, dI)) (ci := 7) (v := .int (nI wd)) (C := R_Model) (T := F_Model) (N := 30) hx hb hw i_Model hown hK hP 0 rfl rfl 7 (by decide) (hw _ m_671) (fun _ h9 => h9) rfl d_Model_change_11 ?_
  refine lv_icmp_ge (tgt := 74) hx hb d_Model_change_14 (by decide) (fun c_1 => ?_) (fun c_1 => ?_)
  · refine lv_iload_n hx hb d_Model_change_74 rfl (lv_at hl 3 rfl) ?_
    refine lv_iconst (v := (-1)) hx hb d_Model_change_75 (by decide) ?_
    refine lv_icmp_ne (tgt := 83) hx hb d_Model_change_76 (by decide) (fun c_2 => ?_) (fun c_2 => ?_)
    · refine lv_iconst (v := (-1)) hx hb d_Model_change_83 (by decide) ?_
      have hP9 := hP.sub (ws' := [(mm, .inr (7, [.ref mwr, .ref mbr, .ref mwb, .ref mbb, .ref mbl, .ref mmo, .int zth, .int (nI wd), .ref mli, .ref mab, .ref mou, .int bt, .int (bI cl), .int cd, .int c3.1, .int c3.2.1, .int c3.2.2, .ref mne, .int nx, .int w3.1, .int w3.2.1, .int w3.2.2, .ref mina, .int gv, .ref mrl, .ref mra, .int lns, .int ps, .int st, .int (bI tu)])), (mra, .inl (cZ, wd, .inl (fun jz => bI (rab jz))))]) [0, 1] rfl
      have hD9 := hD.sub (ws' := [(mm, .inr (7, [.ref mwr, .ref mbr, .ref mwb, .ref mbb, .ref mbl, .ref mmo, .int zth, .int (nI wd), .ref mli, .ref mab, .ref mou, .int bt, .int (bI cl), .int cd, .int c3.1, .int c3.2.1, .int c3.2.2, .ref mne, .int nx, .int w3.1, .int w3.2.1, .int w3.2.2, .ref mina, .int gv, .ref mrl, .ref mra, .int lns, .int ps, .int st, .int (bI tu)])), (mra, .inl (cZ, wd, .inl (fun jz => bI (rab jz))))]) [0, 1] (by decide) rfl
      have hK9 := hK
      exact W.iret (v := (-1)) hx hb hr (fun t ht hW => ⟨⟨(-1), zth, rfl, (by have h9 : f_Model_change wd rab th x = ((-1), zth) := (by exact (hF9.trans ((if_pos c_1).trans ((if_neg c_2).trans (rfl))))); exact ⟨(congrArg Prod.fst h9).symm, (congrArg Prod.snd h9).symm⟩), ⟨by rw [ht]; exact hP9, va_K.moved hW.alike hK9, hD9⟩⟩, hS.F ht⟩) hS.2.2 d_Model_change_84
    · refine lv_iload_n hx hb d_Model_change_79 rfl (lv_at hl 1 rfl) ?_
      refine lv_goto (tgt := 84) hx hb d_Model_change_80 (by decide) ?_
      have hP9 := hP.sub (ws' := [(mm, .inr (7, [.ref mwr, .ref mbr, .ref mwb, .ref mbb, .ref mbl, .ref mmo, .int zth, .int (nI wd), .ref mli, .ref mab, .ref mou, .int bt, .int (bI cl), .int cd, .int c3.1, .int c3.2.1, .int c3.2.2, .ref mne, .int nx, .int w3.1, .int w3.2.1, .int w3.2.2, .ref mina, .int gv, .ref mrl, .ref mra, .int lns, .int ps, .int st, .int (bI tu)])), (mra, .inl (cZ, wd, .inl (fun jz => bI (rab jz))))]) [0, 1] rfl
      have hD9 := hD.sub (ws' := [(mm, .inr (7, [.ref mwr, .ref mbr, .ref mwb, .ref mbb, .ref mbl, .ref mmo, .int zth, .int (nI wd), .ref mli, .ref mab, .ref mou, .int bt, .int (bI cl), .int cd, .int c3.1, .int c3.2.1, .int c3.2.2, .ref mne, .int nx, .int w3.1, .int w3.2.1, .int w3.2.2, .ref mina, .int gv, .ref mrl, .ref mra, .int lns, .int ps, .int st, .int (bI tu)])), (mra, .inl (cZ, wd, .inl (fun jz => bI (rab jz))))]) [0, 1] (by decide) rfl
      have hK9 := hK
      exact W.iret (v := n) hx hb hr (fun t ht hW => ⟨⟨n, zth, rfl, (by have h9 : f_Model_change wd rab th x = (n, zth) := (by exact (hF9.trans ((if_pos c_1).trans ((if_pos c_2).trans (rfl))))); exact ⟨(congrArg Prod.fst h9).symm, (congrArg Prod.snd h9).symm⟩), ⟨by rw [ht]; exact hP9, va_K.moved hW.alike hK9, hD9⟩⟩, hS.F ht⟩) hS.2.2 d_Model_change_84
  · refine lv_iload_n hx hb d_Model_change_17 rfl (lv_at hl 0 rfl) ?_
    refine lv_if_le (tgt := 44) hx hb d_Model_change_18 (by decide) (fun c_3 => ?_) (fun c_3 => ?_)
    · refine lv_iconst (v := 0) hx hb d_Model_change_44 (by decide) ?_
      refine lv_istore (lv' := [(4, .int 0), (3, .int k), (2, .int n), (0, .ref mm), (1, .int x)]) hx hb d_Model_change_45 hl (by decide) rfl (fun ls hl => ?_)
      refine lv_aload_n hx hb d_Model_change_47 rfl (lv_at hl 3 rfl) ?_
      refine va_get (D := (dC, dI)) (ci := 7) (v := .ref mra) (C := R_Model) (T := F_Model) (N := 30) hx hb hw i_Model hown hK hP 0 rfl rfl 25 (by decide) (hw _ m_689) (fun _ h9 => h9) rfl d_Model_change_48 ?_
      refine lv_iload_n hx hb d_Model_change_51 rfl (lv_at hl 1 rfl) ?_
      refine va_zald hx hb hK hP 1 1 rfl rfl (ix_b (by omega) hinv c_1) d_Model_change_52 ?_
      refine lv_iload hx hb d_Model_change_53 (lv_at hl 0 rfl) ?_
      refine lv_icmp_eq (tgt := 68) hx hb d_Model_change_55 (by decide) (fun c_4 => ?_) (fun c_4 => ?_)
      · obtain ⟨x_5, ex_5⟩ : ∃ y : Int32, y = k + 1 := ⟨_, rfl⟩
        refine lv_iinc (v := x_5) (lv' := [(3, .int x_5), (4, .int 0), (2, .int n), (0, .ref mm), (1, .int x)]) hx hb d_Model_change_68 hl (k := 1) rfl (by rw [ex_5]; rfl) (by decide) rfl (fun ls hl => ?_)
        replace ex_5 := ex_5.symm
        refine lv_goto (tgt := 9) hx hb d_Model_change_71 (by decide) ?_
        have hF9 : f_Model_change wd rab th x = l_Model_change_9 wd rab th x n9 n x_5 zth := (by subst ex_5; exact (hF9.trans ((if_neg c_1).trans ((if_pos c_3).trans ((if_pos c_4).trans (rfl))))))
        have hI9 : ¬ x_5 < 0 := (by subst ex_5; exact nn_s (by omega) hinv c_1)
        have hP9 := hP.sub (ws' := [(mm, .inr (7, [.ref mwr, .ref mbr, .ref mwb, .ref mbb, .ref mbl, .ref mmo, .int zth, .int (nI wd), .ref mli, .ref mab, .ref mou, .int bt, .int (bI cl), .int cd, .int c3.1, .int c3.2.1, .int c3.2.2, .ref mne, .int nx, .int w3.1, .int w3.2.1, .int w3.2.2, .ref mina, .int gv, .ref mrl, .ref mra, .int lns, .int ps, .int st, .int (bI tu)])), (mra, .inl (cZ, wd, .inl (fun jz => bI (rab jz))))]) [0, 1] rfl
        have hD9 := hD.sub (ws' := [(mm, .inr (7, [.ref mwr, .ref mbr, .ref mwb, .ref mbb, .ref mbl, .ref mmo, .int zth, .int (nI wd), .ref mli, .ref mab, .ref mou, .int bt, .int (bI cl), .int cd, .int c3.1, .int c3.2.1, .int c3.2.2, .ref mne, .int nx, .int w3.1, .int w3.2.1, .int w3.2.2, .ref mina, .int gv, .ref mrl, .ref mra, .int lns, .int ps, .int st, .int (bI tu)])), (mra, .inl (cZ, wd, .inl (fun jz => bI (rab jz))))]) [0, 1] (by decide) rfl
        have hl9 := lv_sub (l' := [(3, .int x_5), (2, .int n), (0, .ref mm), (1, .int x)]) hl [0, 2, 3, 4] rfl
        have hm9 : ((nI wd).toInt - Int32.toInt x_5).toNat < ((nI wd).toInt - Int32.toInt k).toNat := (by subst ex_5; exact mu_b c_1)
        exact ih9 (n, x_5, zth) _ _ _ ⟨Nat.lt_of_lt_of_le hm9 (Nat.le_of_lt_succ hmu9), hF9, hI9, hP9, hD9, hS, hl9⟩
      · refine lv_iload_n hx hb d_Model_change_58 rfl (lv_at hl 2 rfl) ?_
        refine lv_iload_n hx hb d_Model_change_59 rfl (lv_at hl 4 rfl) ?_
        refine lv_icmp_ne (tgt := 65) hx hb d_Model_change_60 (by decide) (fun c_6 => ?_) (fun c_6 => ?_)
        · obtain ⟨x_7, ex_7⟩ : ∃ y : Int32, y = n + 1 := ⟨_, rfl⟩
          refine lv_iinc (v := x_7) (lv' := [(2, .int x_7), (4, .int 0), (3, .int k), (0, .ref mm), (1, .int x)]) hx hb d_Model_change_65 hl (k := 2) rfl (by rw [ex_7]; rfl) (by decide) rfl (fun ls hl => ?_)
          replace ex_7 := ex_7.symm
          obtain ⟨x_8, ex_8⟩ : ∃ y : Int32, y = k + 1 := ⟨_, rfl⟩
          refine lv_iinc (v := x_8) (lv' := [(3, .int x_8), (2, .int x_7), (4, .int 0), (0, .ref mm), (1, .int x)]) hx hb d_Model_change_68 hl (k := 2) rfl (by rw [ex_8]; rfl) (by decide) rfl (fun ls hl => ?_)
          replace ex_8 := ex_8.symm
          refine lv_goto (tgt := 9) hx hb d_Model_change_71 (by decide) ?_
          have hF9 : f_Model_change wd rab th x = l_Model_change_9 wd rab th x n9 x_7 x_8 zth := (by subst ex_7 ex_8; exact (hF9.trans ((if_neg c_1).trans ((if_pos c_3).trans ((if_neg c_4).trans ((if_neg c_6).trans (rfl)))))))
          have hI9 : ¬ x_8 < 0 := (by subst ex_7 ex_8; exact nn_s (by omega) hinv c_1)
          have hP9 := hP.sub (ws' := [(mm, .inr (7, [.ref mwr, .ref mbr, .ref mwb, .ref mbb, .ref mbl, .ref mmo, .int zth, .int (nI wd), .ref mli, .ref mab, .ref mou, .int bt, .int (bI cl), .int cd, .int c3.1, .int c3.2.1, .int c3.2.2, .ref mne, .int nx, .int w3.1, .int w3.2.1, .int w3.2.2, .ref mina, .int gv, .ref mrl, .ref mra, .int lns, .int ps, .int st, .int (bI tu)])), (mra, .inl (cZ, wd, .inl (fun jz => bI (rab jz))))]) [0, 1] rfl
          have hD9 := hD.sub (ws' := [(mm, .inr (7, [.ref mwr, .ref mbr, .ref mwb, .ref mbb, .ref mbl, .ref mmo, .int zth, .int (nI wd), .ref mli, .ref mab, .ref mou, .int bt, .int (bI cl), .int cd, .int c3.1, .int c3.2.1, .int c3.2.2, .ref mne, .int nx, .int w3.1, .int w3.2.1, .int w3.2.2, .ref mina, .int gv, .ref mrl, .ref mra, .int lns, .int ps, .int st, .int (bI tu)])), (mra, .inl (cZ, wd, .inl (fun jz => bI (rab jz))))]) [0, 1] (by decide) rfl
          have hl9 := lv_sub (l' := [(3, .int x_8), (2, .int x_7), (0, .ref mm), (1, .int x)]) hl [0, 1, 3, 4] rfl
          have hm9 : ((nI wd).toInt - Int32.toInt x_8).toNat < ((nI wd).toInt - Int32.toInt k).toNat := (by subst ex_7 ex_8; exact mu_b c_1)
          exact ih9 (x_7, x_8, zth) _ _ _ ⟨Nat.lt_of_lt_of_le hm9 (Nat.le_of_lt_succ hmu9), hF9, hI9, hP9, hD9, hS, hl9⟩
        · refine lv_iload_n hx hb d_Model_change_63 rfl (lv_at hl 1 rfl) ?_
          have hP9 := hP.sub (ws' := [(mm, .inr (7, [.ref mwr, .ref mbr, .ref mwb, .ref mbb, .ref mbl, .ref mmo, .int zth, .int (nI wd), .ref mli, .ref mab, .ref mou, .int bt, .int (bI cl), .int cd, .int c3.1, .int c3.2.1, .int c3.2.2, .ref mne, .int nx, .int w3.1, .int w3.2.1, .int w3.2.2, .ref mina, .int gv, .ref mrl, .ref mra, .int lns, .int ps, .int st, .int (bI tu)])), (mra, .inl (cZ, wd, .inl (fun jz => bI (rab jz))))]) [0, 1] rfl
          have hD9 := hD.sub (ws' := [(mm, .inr (7, [.ref mwr, .ref mbr, .ref mwb, .ref mbb, .ref mbl, .ref mmo, .int zth, .int (nI wd), .ref mli, .ref mab, .ref mou, .int bt, .int (bI cl), .int cd, .int c3.1, .int c3.2.1, .int c3.2.2, .ref mne, .int nx, .int w3.1, .int w3.2.1, .int w3.2.2, .ref mina, .int gv, .ref mrl, .ref mra, .int lns, .int ps, .int st, .int (bI tu)])), (mra, .inl (cZ, wd, .inl (fun jz => bI (rab jz))))]) [0, 1] (by decide) rfl
          have hK9 := hK
          exact W.iret (v := k) hx hb hr (fun t ht hW => ⟨⟨k, zth, rfl, (by have h9 : f_Model_change wd rab th x = (k, zth) := (by exact (hF9.trans ((if_neg c_1).trans ((if_pos c_3).trans ((if_neg c_4).trans ((if_pos c_6).trans (rfl))))))); exact ⟨(congrArg Prod.fst h9).symm, (congrArg Prod.snd h9).symm⟩), ⟨by rw [ht]; exact hP9, va_K.moved hW.alike hK9, hD9⟩⟩, hS.F ht⟩) hS.2.2 d_Model_change_64
    · refine lv_aload_n hx hb d_Model_change_21 rfl (lv_at hl 2 rfl) ?_
      refine va_get (D := (dC, dI)) (ci := 7) (v := .ref mra) (C := R_Model) (T := F_Model) (N := 30) hx hb hw i_Model hown hK hP 0 rfl rfl 25 (by decide) (hw _ m_689) (fun _ h9 => h9) rfl d_Model_change_22 ?_
      refine lv_iload_n hx hb d_Model_change_25 rfl (lv_at hl 0 rfl) ?_
      refine lv_if_le (tgt := 35) hx hb d_Model_change_26 (by decide) (fun c_9 => ?_) (fun c_9 => ?_)
      · exact absurd c_9 (by first | decide | assumption | exact not_not_intro (by assumption))
      · refine lv_iload_n hx hb d_Model_change_29 rfl (lv_at hl 0 rfl) ?_
        refine lv_iconst (v := 1) hx hb d_Model_change_30 (by decide) ?_
        refine lv_isub hx hb d_Model_change_31 ?_
        refine lv_goto (tgt := 36) hx hb d_Model_change_32 (by decide) ?_
        refine va_zald hx hb hK hP 1 1 rfl rfl (ix_p hwd c_3 c_1) d_Model_change_36 ?_
        refine lv_if_eq (tgt := 44) hx hb d_Model_change_37 (by decide) (fun c_10 => ?_) (fun c_10 => ?_)
        · refine lv_iconst (v := 0) hx hb d_Model_change_44 (by decide) ?_
          refine lv_istore (lv' := [(4, .int 0), (3, .int k), (2, .int n), (0, .ref mm), (1, .int x)]) hx hb d_Model_change_45 hl (by decide) rfl (fun ls hl => ?_)
          refine lv_aload_n hx hb d_Model_change_47 rfl (lv_at hl 3 rfl) ?_
          refine va_get (D := (dC, dI)) (ci := 7) (v := .ref mra) (C := R_Model) (T := F_Model) (N := 30) hx hb hw i_Model hown hK hP 0 rfl rfl 25 (by decide) (hw _ m_689) (fun _ h9 => h9) rfl d_Model_change_48 ?_
          refine lv_iload_n hx hb d_Model_change_51 rfl (lv_at hl 1 rfl) ?_
          refine va_zald hx hb hK hP 1 1 rfl rfl (ix_b (by omega) hinv c_1) d_Model_change_52 ?_
          refine lv_iload hx hb d_Model_change_53 (lv_at hl 0 rfl) ?_
          refine lv_icmp_eq (tgt := 68) hx hb d_Model_change_55 (by decide) (fun c_11 => ?_) (fun c_11 => ?_)
          · obtain ⟨x_12, ex_12⟩ : ∃ y : Int32, y = k + 1 := ⟨_, rfl⟩
            refine lv_iinc (v := x_12) (lv' := [(3, .int x_12), (4, .int 0), (2, .int n), (0, .ref mm), (1, .int x)]) hx hb d_Model_change_68 hl (k := 1) rfl (by rw [ex_12]; rfl) (by decide) rfl (fun ls hl => ?_)
            replace ex_12 := ex_12.symm
            refine lv_goto (tgt := 9) hx hb d_Model_change_71 (by decide) ?_
            have hF9 : f_Model_change wd rab th x = l_Model_change_9 wd rab th x n9 n x_12 zth := (by subst ex_12; exact (hF9.trans ((if_neg c_1).trans ((if_neg c_3).trans ((if_pos c_10).trans ((if_pos c_11).trans (rfl)))))))
            have hI9 : ¬ x_12 < 0 := (by subst ex_12; exact nn_s (by omega) hinv c_1)
            have hP9 := hP.sub (ws' := [(mm, .inr (7, [.ref mwr, .ref mbr, .ref mwb, .ref mbb, .ref mbl, .ref mmo, .int zth, .int (nI wd), .ref mli, .ref mab, .ref mou, .int bt, .int (bI cl), .int cd, .int c3.1, .int c3.2.1, .int c3.2.2, .ref mne, .int nx, .int w3.1, .int w3.2.1, .int w3.2.2, .ref mina, .int gv, .ref mrl, .ref mra, .int lns, .int ps, .int st, .int (bI tu)])), (mra, .inl (cZ, wd, .inl (fun jz => bI (rab jz))))]) [0, 1] rfl
            have hD9 := hD.sub (ws' := [(mm, .inr (7, [.ref mwr, .ref mbr, .ref mwb, .ref mbb, .ref mbl, .ref mmo, .int zth, .int (nI wd), .ref mli, .ref mab, .ref mou, .int bt, .int (bI cl), .int cd, .int c3.1, .int c3.2.1, .int c3.2.2, .ref mne, .int nx, .int w3.1, .int w3.2.1, .int w3.2.2, .ref mina, .int gv, .ref mrl, .ref mra, .int lns, .int ps, .int st, .int (bI tu)])), (mra, .inl (cZ, wd, .inl (fun jz => bI (rab jz))))]) [0, 1] (by decide) rfl
            have hl9 := lv_sub (l' := [(3, .int x_12), (2, .int n), (0, .ref mm), (1, .int x)]) hl [0, 2, 3, 4] rfl
            have hm9 : ((nI wd).toInt - Int32.toInt x_12).toNat < ((nI wd).toInt - Int32.toInt k).toNat := (by subst ex_12; exact mu_b c_1)
            exact ih9 (n, x_12, zth) _ _ _ ⟨Nat.lt_of_lt_of_le hm9 (Nat.le_of_lt_succ hmu9), hF9, hI9, hP9, hD9, hS, hl9⟩
          · refine lv_iload_n hx hb d_Model_change_58 rfl (lv_at hl 2 rfl) ?_
            refine lv_iload_n hx hb d_Model_change_59 rfl (lv_at hl 4 rfl) ?_
            refine lv_icmp_ne (tgt := 65) hx hb d_Model_change_60 (by decide) (fun c_13 => ?_) (fun c_13 => ?_)
            · obtain ⟨x_14, ex_14⟩ : ∃ y : Int32, y = n + 1 := ⟨_, rfl⟩
              refine lv_iinc (v := x_14) (lv' := [(2, .int x_14), (4, .int 0), (3, .int k), (0, .ref mm), (1, .int x)]) hx hb d_Model_change_65 hl (k := 2) rfl (by rw [ex_14]; rfl) (by decide) rfl (fun ls hl => ?_)
              replace ex_14 := ex_14.symm
              obtain ⟨x_15, ex_15⟩ : ∃ y : Int32, y = k + 1 := ⟨_, rfl⟩
              refine lv_iinc (v := x_15) (lv' := [(3, .int x_15), (2, .int x_14), (4, .int 0), (0, .ref mm), (1, .int x)]) hx hb d_Model_change_68 hl (k := 2) rfl (by rw [ex_15]; rfl) (by decide) rfl (fun ls hl => ?_)
              replace ex_15 := ex_15.symm
              refine lv_goto (tgt := 9) hx hb d_Model_change_71 (by decide) ?_
              have hF9 : f_Model_change wd rab th x = l_Model_change_9 wd rab th x n9 x_14 x_15 zth := (by subst ex_14 ex_15; exact (hF9.trans ((if_neg c_1).trans ((if_neg c_3).trans ((if_pos c_10).trans ((if_neg c_11).trans ((if_neg c_13).trans (rfl))))))))
              have hI9 : ¬ x_15 < 0 := (by subst ex_14 ex_15; exact nn_s (by omega) hinv c_1)
              have hP9 := hP.sub (ws' := [(mm, .inr (7, [.ref mwr, .ref mbr, .ref mwb, .ref mbb, .ref mbl, .ref mmo, .int zth, .int (nI wd), .ref mli, .ref mab, .ref mou, .int bt, .int (bI cl), .int cd, .int c3.1, .int c3.2.1, .int c3.2.2, .ref mne, .int nx, .int w3.1, .int w3.2.1, .int w3.2.2, .ref mina, .int gv, .ref mrl, .ref mra, .int lns, .int ps, .int st, .int (bI tu)])), (mra, .inl (cZ, wd, .inl (fun jz => bI (rab jz))))]) [0, 1] rfl
              have hD9 := hD.sub (ws' := [(mm, .inr (7, [.ref mwr, .ref mbr, .ref mwb, .ref mbb, .ref mbl, .ref mmo, .int zth, .int (nI wd), .ref mli, .ref mab, .ref mou, .int bt, .int (bI cl), .int cd, .int c3.1, .int c3.2.1, .int c3.2.2, .ref mne, .int nx, .int w3.1, .int w3.2.1, .int w3.2.2, .ref mina, .int gv, .ref mrl, .ref mra, .int lns, .int ps, .int st, .int (bI tu)])), (mra, .inl (cZ, wd, .inl (fun jz => bI (rab jz))))]) [0, 1] (by decide) rfl
              have hl9 := lv_sub (l' := [(3, .int x_15), (2, .int x_14), (0, .ref mm), (1, .int x)]) hl [0, 1, 3, 4] rfl
              have hm9 : ((nI wd).toInt - Int32.toInt x_15).toNat < ((nI wd).toInt - Int32.toInt k).toNat := (by subst ex_14 ex_15; exact mu_b c_1)
              exact ih9 (x_14, x_15, zth) _ _ _ ⟨Nat.lt_of_lt_of_le hm9 (Nat.le_of_lt_succ hmu9), hF9, hI9, hP9, hD9, hS, hl9⟩
            · refine lv_iload_n hx hb d_Model_change_63 rfl (lv_at hl 1 rfl) ?_
              have hP9 := hP.sub (ws' := [(mm, .inr (7, [.ref mwr, .ref mbr, .ref mwb, .ref mbb, .ref mbl, .ref mmo, .int zth, .int (nI wd), .ref mli, .ref mab, .ref mou, .int bt, .int (bI cl), .int cd, .int c3.1, .int c3.2.1, .int c3.2.2, .ref mne, .int nx, .int w3.1, .int w3.2.1, .int w3.2.2, .ref mina, .int gv, .ref mrl, .ref mra, .int lns, .int ps, .int st, .int (bI tu)])), (mra, .inl (cZ, wd, .inl (fun jz => bI (rab jz))))]) [0, 1] rfl
              have hD9 := hD.sub (ws' := [(mm, .inr (7, [.ref mwr, .ref mbr, .ref mwb, .ref mbb, .ref mbl, .ref mmo, .int zth, .int (nI wd), .ref mli, .ref mab, .ref mou, .int bt, .int (bI cl), .int cd, .int c3.1, .int c3.2.1, .int c3.2.2, .ref mne, .int nx, .int w3.1, .int w3.2.1, .int w3.2.2, .ref mina, .int gv, .ref mrl, .ref mra, .int lns, .int ps, .int st, .int (bI tu)])), (mra, .inl (cZ, wd, .inl (fun jz => bI (rab jz))))]) [0, 1] (by decide) rfl
              have hK9 := hK
              exact W.iret (v := k) hx hb hr (fun t ht hW => ⟨⟨k, zth, rfl, (by have h9 : f_Model_change wd rab th x = (k, zth) := (by exact (hF9.trans ((if_neg c_1).trans ((if_neg c_3).trans ((if_pos c_10).trans ((if_neg c_11).trans ((if_pos c_13).trans (rfl)))))))); exact ⟨(congrArg Prod.fst h9).symm, (congrArg Prod.snd h9).symm⟩), ⟨by rw [ht]; exact hP9, va_K.moved hW.alike hK9, hD9⟩⟩, hS.F ht⟩) hS.2.2 d_Model_change_64
        · refine lv_iconst (v := 1) hx hb d_Model_change_40 (by decide) ?_
          refine lv_goto (tgt := 45) hx hb d_Model_change_41 (by decide) ?_
          refine lv_istore (lv' := [(4, .int 1), (3, .int k), (2, .int n), (0, .ref mm), (1, .int x)]) hx hb d_Model_change_45 hl (by decide) rfl (fun ls hl => ?_)
          refine lv_aload_n hx hb d_Model_change_47 rfl (lv_at hl 3 rfl) ?_
          refine va_get (D := (dC, dI)) (ci := 7) (v := .ref mra) (C := R_Model) (T := F_Model) (N := 30) hx hb hw i_Model hown hK hP 0 rfl rfl 25 (by decide) (hw _ m_689) (fun _ h9 => h9) rfl d_Model_change_48 ?_
          refine lv_iload_n hx hb d_Model_change_51 rfl (lv_at hl 1 rfl) ?_
          refine va_zald hx hb hK hP 1 1 rfl rfl (ix_b (by omega) hinv c_1) d_Model_change_52 ?_
          refine lv_iload hx hb d_Model_change_53 (lv_at hl 0 rfl) ?_
          refine lv_icmp_eq (tgt := 68) hx hb d_Model_change_55 (by decide) (fun c_16 => ?_) (fun c_16 => ?_)
          · obtain ⟨x_17, ex_17⟩ : ∃ y : Int32, y = k + 1 := ⟨_, rfl⟩
            refine lv_iinc (v := x_17) (lv' := [(3, .int x_17), (4, .int 1), (2, .int n), (0, .ref mm), (1, .int x)]) hx hb d_Model_change_68 hl (k := 1) rfl (by rw [ex_17]; rfl) (by decide) rfl (fun ls hl => ?_)
            replace ex_17 := ex_17.symm
            refine lv_goto (tgt := 9) hx hb d_Model_change_71 (by decide) ?_
            have hF9 : f_Model_change wd rab th x = l_Model_change_9 wd rab th x n9 n x_17 zth := (by subst ex_17; exact (hF9.trans ((if_neg c_1).trans ((if_neg c_3).trans ((if_neg c_10).trans ((if_pos c_16).trans (rfl)))))))
            have hI9 : ¬ x_17 < 0 := (by subst ex_17; exact nn_s (by omega) hinv c_1)
            have hP9 := hP.sub (ws' := [(mm, .inr (7, [.ref mwr, .ref mbr, .ref mwb, .ref mbb, .ref mbl, .ref mmo, .int zth, .int (nI wd), .ref mli, .ref mab, .ref mou, .int bt, .int (bI cl), .int cd, .int c3.1, .int c3.2.1, .int c3.2.2, .ref mne, .int nx, .int w3.1, .int w3.2.1, .int w3.2.2, .ref mina, .int gv, .ref mrl, .ref mra, .int lns, .int ps, .int st, .int (bI tu)])), (mra, .inl (cZ, wd, .inl (fun jz => bI (rab jz))))]) [0, 1] rfl
            have hD9 := hD.sub (ws' := [(mm, .inr (7, [.ref mwr, .ref mbr, .ref mwb, .ref mbb, .ref mbl, .ref mmo, .int zth, .int (nI wd), .ref mli, .ref mab, .ref mou, .int bt, .int (bI cl), .int cd, .int c3.1, .int c3.2.1, .int c3.2.2, .ref mne, .int nx, .int w3.1, .int w3.2.1, .int w3.2.2, .ref mina, .int gv, .ref mrl, .ref mra, .int lns, .int ps, .int st, .int (bI tu)])), (mra, .inl (cZ, wd, .inl (fun jz => bI (rab jz))))]) [0, 1] (by decide) rfl
            have hl9 := lv_sub (l' := [(3, .int x_17), (2, .int n), (0, .ref mm), (1, .int x)]) hl [0, 2, 3, 4] rfl
            have hm9 : ((nI wd).toInt - Int32.toInt x_17).toNat < ((nI wd).toInt - Int32.toInt k).toNat := (by subst ex_17; exact mu_b c_1)
            exact ih9 (n, x_17, zth) _ _ _ ⟨Nat.lt_of_lt_of_le hm9 (Nat.le_of_lt_succ hmu9), hF9, hI9, hP9, hD9, hS, hl9⟩
          · refine lv_iload_n hx hb d_Model_change_58 rfl (lv_at hl 2 rfl) ?_
            refine lv_iload_n hx hb d_Model_change_59 rfl (lv_at hl 4 rfl) ?_
            refine lv_icmp_ne (tgt := 65) hx hb d_Model_change_60 (by decide) (fun c_18 => ?_) (fun c_18 => ?_)
            · obtain ⟨x_19, ex_19⟩ : ∃ y : Int32, y = n + 1 := ⟨_, rfl⟩
              refine lv_iinc (v := x_19) (lv' := [(2, .int x_19), (4, .int 1), (3, .int k), (0, .ref mm), (1, .int x)]) hx hb d_Model_change_65 hl (k := 2) rfl (by rw [ex_19]; rfl) (by decide) rfl (fun ls hl => ?_)
              replace ex_19 := ex_19.symm
              obtain ⟨x_20, ex_20⟩ : ∃ y : Int32, y = k + 1 := ⟨_, rfl⟩
              refine lv_iinc (v := x_20) (lv' := [(3, .int x_20), (2, .int x_19), (4, .int 1), (0, .ref mm), (1, .int x)]) hx hb d_Model_change_68 hl (k := 2) rfl (by rw [ex_20]; rfl) (by decide) rfl (fun ls hl => ?_)
              replace ex_20 := ex_20.symm
              refine lv_goto (tgt := 9) hx hb d_Model_change_71 (by decide) ?_
              have hF9 : f_Model_change wd rab th x = l_Model_change_9 wd rab th x n9 x_19 x_20 zth := (by subst ex_19 ex_20; exact (hF9.trans ((if_neg c_1).trans ((if_neg c_3).trans ((if_neg c_10).trans ((if_neg c_16).trans ((if_neg c_18).trans (rfl))))))))
              have hI9 : ¬ x_20 < 0 := (by subst ex_19 ex_20; exact nn_s (by omega) hinv c_1)
              have hP9 := hP.sub (ws' := [(mm, .inr (7, [.ref mwr, .ref mbr, .ref mwb, .ref mbb, .ref mbl, .ref mmo, .int zth, .int (nI wd), .ref mli, .ref mab, .ref mou, .int bt, .int (bI cl), .int cd, .int c3.1, .int c3.2.1, .int c3.2.2, .ref mne, .int nx, .int w3.1, .int w3.2.1, .int w3.2.2, .ref mina, .int gv, .ref mrl, .ref mra, .int lns, .int ps, .int st, .int (bI tu)])), (mra, .inl (cZ, wd, .inl (fun jz => bI (rab jz))))]) [0, 1] rfl
              have hD9 := hD.sub (ws' := [(mm, .inr (7, [.ref mwr, .ref mbr, .ref mwb, .ref mbb, .ref mbl, .ref mmo, .int zth, .int (nI wd), .ref mli, .ref mab, .ref mou, .int bt, .int (bI cl), .int cd, .int c3.1, .int c3.2.1, .int c3.2.2, .ref mne, .int nx, .int w3.1, .int w3.2.1, .int w3.2.2, .ref mina, .int gv, .ref mrl, .ref mra, .int lns, .int ps, .int st, .int (bI tu)])), (mra, .inl (cZ, wd, .inl (fun jz => bI (rab jz))))]) [0, 1] (by decide) rfl
              have hl9 := lv_sub (l' := [(3, .int x_20), (2, .int x_19), (0, .ref mm), (1, .int x)]) hl [0, 1, 3, 4] rfl
              have hm9 : ((nI wd).toInt - Int32.toInt x_20).toNat < ((nI wd).toInt - Int32.toInt k).toNat := (by subst ex_19 ex_20; exact mu_b c_1)
              exact ih9 (x_19, x_20, zth) _ _ _ ⟨Nat.lt_of_lt_of_le hm9 (Nat.le_of_lt_succ hmu9), hF9, hI9, hP9, hD9, hS, hl9⟩
            · refine lv_iload_n hx hb d_Model_change_63 rfl (lv_at hl 1 rfl) ?_
              have hP9 := hP.sub (ws' := [(mm, .inr (7, [.ref mwr, .ref mbr, .ref mwb, .ref mbb, .ref mbl, .ref mmo, .int zth, .int (nI wd), .ref mli, .ref mab, .ref mou, .int bt, .int (bI cl), .int cd, .int c3.1, .int c3.2.1, .int c3.2.2, .ref mne, .int nx, .int w3.1, .int w3.2.1, .int w3.2.2, .ref mina, .int gv, .ref mrl, .ref mra, .int lns, .int ps, .int st, .int (bI tu)])), (mra, .inl (cZ, wd, .inl (fun jz => bI (rab jz))))]) [0, 1] rfl
              have hD9 := hD.sub (ws' := [(mm, .inr (7, [.ref mwr, .ref mbr, .ref mwb, .ref mbb, .ref mbl, .ref mmo, .int zth, .int (nI wd), .ref mli, .ref mab, .ref mou, .int bt, .int (bI cl), .int cd, .int c3.1, .int c3.2.1, .int c3.2.2, .ref mne, .int nx, .int w3.1, .int w3.2.1, .int w3.2.2, .ref mina, .int gv, .ref mrl, .ref mra, .int lns, .int ps, .int st, .int (bI tu)])), (mra, .inl (cZ, wd, .inl (fun jz => bI (rab jz))))]) [0, 1] (by decide) rfl
              have hK9 := hK
              exact W.iret (v := k) hx hb hr (fun t ht hW => ⟨⟨k, zth, rfl, (by have h9 : f_Model_change wd rab th x = (k, zth) := (by exact (hF9.trans ((if_neg c_1).trans ((if_neg c_3).trans ((if_neg c_10).trans ((if_neg c_16).trans ((if_pos c_18).trans (rfl)))))))); exact ⟨(congrArg Prod.fst h9).symm, (congrArg Prod.snd h9).symm⟩), ⟨by rw [ht]; exact hP9, va_K.moved hW.alike hK9, hD9⟩⟩, hS.F ht⟩) hS.2.2 d_Model_change_64
def f_Model_look (wd : Nat) (bt : Int32) (cl : Bool) (cd : Int32) (c3 : Int32 × Int32 × Int32) (gv : Int32) (lns : Int32) (ps : Int32) (th : Int32) (x : Int32) : Int32 × Int32 := if x = 0 then ((nI wd, 0)) else (if x = 1 then ((bt, 0)) else (if x = 2 then (if (bI cl) = 0 then ((0, 0)) else ((1, 0))) else (if x = 3 then ((gv, 0)) else (if x = 4 then ((lns, 0)) else (if x = 5 then ((cd, 0)) else (if x = 6 then ((c3.1, 0)) else (if x = 7 then ((c3.2.1, 0)) else (if x = 8 then ((c3.2.2, 0)) else (if x = 9 then ((ps, 0)) else (((-1), 0)))))))))))
set_option maxHeartbeats 4000000 in
set_option maxRecDepth 100000 in
theorem c_Model_look (l : Launch) (dC : Nat → ClassId) (dI : Nat → Nat → Nat) (cI cZ : ClassId) (mm : Nat) (mwr : Nat) (mbr : Nat) (mwb : Nat) (mbb : Nat) (mbl : Nat) (mmo : Nat) (mli : Nat) (mab : Nat) (mou : Nat) (mne : Nat) (mina : Nat) (mrl : Nat) (mra : Nat) (wd : Nat) (bt : Int32) (cl : Bool) (cd : Int32) (c3 : Int32 × Int32 × Int32) (nx : Int32) (w3 : Int32 × Int32 × Int32) (gv : Int32) (lns : Int32) (ps : Int32) (st : Int32) (tu : Bool) (sz : Nat) (th : Int32) (x : Int32) (hwd : wd ≤ 10000) : Met l y_Model_look w_Model_look ({ frames := 0, cells := 0, slots := 0, locals := 0 }) (va_Pc [.ref mm, .int x] (fun U => U.heap.size = sz ∧ va_P (dC, dI) classes [(mm, .inr (7, [.ref mwr, .ref mbr, .ref mwb, .ref mbb, .ref mbl, .ref mmo, .int th, .int (nI wd), .ref mli, .ref mab, .ref mou, .int bt, .int (bI cl), .int cd, .int c3.1, .int c3.2.1, .int c3.2.2, .ref mne, .int nx, .int w3.1, .int w3.2.1, .int w3.2.2, .ref mina, .int gv, .ref mrl, .ref mra, .int lns, .int ps, .int st, .int (bI tu)]))] U.heap ∧ va_K (dC, dI) classes [(cI, .int), (cZ, .boolean)] U ∧ va_D (fun _ => True) [(mm, .inr (7, [.ref mwr, .ref mbr, .ref mwb, .ref mbb, .ref mbl, .ref mmo, .int th, .int (nI wd), .ref mli, .ref mab, .ref mou, .int bt, .int (bI cl), .int cd, .int c3.1, .int c3.2.1, .int c3.2.2, .ref mne, .int nx, .int w3.1, .int w3.2.1, .int w3.2.2, .ref mina, .int gv, .ref mrl, .ref mra, .int lns, .int ps, .int st, .int (bI tu)]))])) (va_Qi (fun (r : Int32) (u : Int32) => r = (f_Model_look wd bt cl cd c3 gv lns ps th x).1 ∧ u = (f_Model_look wd bt cl cd c3 gv lns ps th x).2) (fun (u : Int32) (t : State) => va_P (dC, dI) classes [(mm, .inr (7, [.ref mwr, .ref mbr, .ref mwb, .ref mbb, .ref mbl, .ref mmo, .int u, .int (nI wd), .ref mli, .ref mab, .ref mou, .int bt, .int (bI cl), .int cd, .int c3.1, .int c3.2.1, .int c3.2.2, .ref mne, .int nx, .int w3.1, .int w3.2.1, .int w3.2.2, .ref mina, .int gv, .ref mrl, .ref mra, .int lns, .int ps, .int st, .int (bI tu)]))] t.heap ∧ va_K (dC, dI) classes [(cI, .int), (cZ, .boolean)] t ∧ va_D (va_A [(mm, .inr (7, [.ref mwr, .ref mbr, .ref mwb, .ref mbb, .ref mbl, .ref mmo, .int th, .int (nI wd), .ref mli, .ref mab, .ref mou, .int bt, .int (bI cl), .int cd, .int c3.1, .int c3.2.1, .int c3.2.2, .ref mne, .int nx, .int w3.1, .int w3.2.1, .int w3.2.2, .ref mina, .int gv, .ref mrl, .ref mra, .int lns, .int ps, .int st, .int (bI tu)]))] sz) [(mm, .inr (7, [.ref mwr, .ref mbr, .ref mwb, .ref mbb, .ref mbl, .ref mmo, .int u, .int (nI wd), .ref mli, .ref mab, .ref mou, .int bt, .int (bI cl), .int cd, .int c3.1, .int c3.2.1, .int c3.2.2, .ref mne, .int nx, .int w3.1, .int w3.2.1, .int w3.2.2, .ref mina, .int gv, .ref mrl, .ref mra, .int lns, .int ps, .int st, .int (bI tu)]))]) (va_A [(mm, .inr (7, [.ref mwr, .ref mbr, .ref mwb, .ref mbb, .ref mbl, .ref mmo, .int th, .int (nI wd), .ref mli, .ref mab, .ref mou, .int bt, .int (bI cl), .int cd, .int c3.1, .int c3.2.1, .int c3.2.2, .ref mne, .int nx, .int w3.1, .int w3.2.1, .int w3.2.2, .ref mina, .int gv, .ref mrl, .ref mra, .int lns, .int ps, .int st, .int (bI tu)]))] sz)) 0 0 (va_A [(mm, .inr (7, [.ref mwr, .ref mbr, .ref mwb, .ref mbb, .ref mbl, .ref mmo, .int th, .int (nI wd), .ref mli, .ref mab, .ref mou, .int bt, .int (bI cl), .int cd, .int c3.1, .int c3.2.1, .int c3.2.2, .ref mne, .int nx, .int w3.1, .int w3.2.1, .int w3.2.2, .ref mina, .int gv, .ref mrl, .ref mra, .int lns, .int ps, .int st, .int (bI tu)]))] sz) := by
  refine Met.ofW (cc := b_Model_look) (maxL := 2) (ret := (some .int)) (by decide) rfl ?_
  intro p e s m args below meth c s₁ B hml hv
  obtain ⟨rfl, hsz, hP, hK, hD0⟩ := hv
  have hx := B.exec
  have hb := B.bytes
  have hr := B.returns
  have hts := atoms_spec (ws := w_Model_look) B.pre
  have hw : ∀ w ∈ WA, w.before _ s = true := fun w h => hts w (List.mem_cons_of_mem _ h)
  have hown : s.vm.findClass R_Model = some m.cls := findClass_of_methodNamed B.named
  have hlocks := B.notSynchronized
  subst hsz
  have hD := hD0.self (sz := s.heap.size)
  generalize hAe : va_A [(mm, .inr (7, [.ref mwr, .ref mbr, .ref mwb, .ref mbb, .ref mbl, .ref mmo, .int th, .int (nI wd), .ref mli, .ref mab, .ref mou, .int bt, .int (bI cl), .int cd, .int c3.1, .int c3.2.1, .int c3.2.2, .ref mne, .int nx, .int w3.1, .int w3.2.1, .int w3.2.2, .ref mina, .int gv, .ref mrl, .ref mra, .int lns, .int ps, .int st, .int (bI tu)]))] s.heap.size = A at hD ⊢
  have hA : ∀ q : Nat, s.heap.size ≤ q → A q := fun q h => by rw [← hAe]; exact Or.inr h
  have hS : va_S A s.heap s.heap [] := va_S.rf
  have hP : va_P (dC, dI) classes [(mm, .inr (7, [.ref mwr, .ref mbr, .ref mwb, .ref mbb, .ref mbl, .ref mmo, .int th, .int (nI wd), .ref mli, .ref mab, .ref mou, .int bt, .int (bI cl), .int cd, .int c3.1, .int c3.2.1, .int c3.2.2, .ref mne, .int nx, .int w3.1, .int w3.2.1, .int w3.2.2, .ref mina, .int gv, .ref mrl, .ref mra, .int lns, .int ps, .int st, .int (bI tu)]))] s.heap := hP
  have hl := lv_entry ([.ref mm, .int x]) (n := 2) (Nat.le_of_ble_eq_true rfl)
  rw [lg_entry_eq]
  generalize (lg_sl ([.ref mm, .int x]) ++ List.replicate (2 - (lg_sl ([.ref mm, .int x])).length) Slot.unset).toArray = ls at hl ⊢
  have hl : lv_has ls 2 [(0, .ref mm), (1, .int x)] := hl
  refine lv_aload_n hx hb d_Model_look_0 rfl (lv_at hl 0 rfl) ?_
  refine lv_iconst (v := 0) hx hb d_Model_look_1 (by decide) ?_
  refine va_put (D := (dC, dI)) (ci := 7) (v := .int 0) (ty := .int) (C := R_Model) (T := F_Model) (N := 30) hx hb hw i_Model t_Model t_Model_ok n_Model hown hK hP hD hS 0 rfl rfl 6 (by decide) (hw _ m_670) (fun _ h9 => h9) rfl (by decide +kernel) rfl rfl (Nat.le_of_ble_eq_true rfl) d_Model_look_2 (fun H locs hP hD hS => ?_)
  have hP : va_P (dC, dI) classes [(mm, .inr (7, [.ref mwr, .ref mbr, .ref mwb, .ref mbb, .ref mbl, .ref mmo, .int 0, .int (nI wd), .ref mli, .ref mab, .ref mou, .int bt, .int (bI cl), .int cd, .int c3.1, .int c3.2.1, .int c3.2.2, .ref mne, .int nx, .int w3.1, .int w3.2.1, .int w3.2.2, .ref mina, .int gv, .ref mrl, .ref mra, .int lns, .int ps, .int st, .int (bI tu)]))] H := hP
  have hD : va_D A [(mm, .inr (7, [.ref mwr, .ref mbr, .ref mwb, .ref mbb, .ref mbl, .ref mmo, .int 0, .int (nI wd), .ref mli, .ref mab, .ref mou, .int bt, .int (bI cl), .int cd, .int c3.1, .int c3.2.1, .int c3.2.2, .ref mne, .int nx, .int w3.1, .int w3.2.1, .int w3.2.2, .ref mina, .int gv, .ref mrl, .ref mra, .int lns, .int ps, .int st, .int (bI tu)]))] := hD
  refine lv_iload_n hx hb d_Model_look_5 rfl (lv_at hl 1 rfl) ?_
  by_cases c_1 : x = 0
  · refine lv_tableIn (tgt := 60) (off := 54) hx hb d_Model_look_6 (by rw [c_1]; decide) (by rw [c_1]; decide) (by rw [c_1]; rfl) (by decide) ?_
    refine lv_aload_n hx hb d_Model_look_60 rfl (lv_at hl 0 rfl) ?_
    refine va_get (D := (dC, dI)) (ci := 7) (v := .int (nI wd)) (C := R_Model) (T := F_Model) (N := 30) hx hb hw i_Model hown hK hP 0 rfl rfl 7 (by decide) (hw _ m_671) (fun _ h9 => h9) rfl d_Model_look_61 ?_
    have hP9 := hP.sub (ws' := [(mm, .inr (7, [.ref mwr, .ref mbr, .ref mwb, .ref mbb, .ref mbl, .ref mmo, .int 0, .int (nI wd), .ref mli, .ref mab, .ref mou, .int bt, .int (bI cl), .int cd, .int c3.1, .int c3.2.1, .int c3.2.2, .ref mne, .int nx, .int w3.1, .int w3.2.1, .int w3.2.2, .ref mina, .int gv, .ref mrl, .ref mra, .int lns, .int ps, .int st, .int (bI tu)]))]) [0] rfl
    have hD9 := hD.sub (ws' := [(mm, .inr (7, [.ref mwr, .ref mbr, .ref mwb, .ref mbb, .ref mbl, .ref mmo, .int 0, .int (nI wd), .ref mli, .ref mab, .ref mou, .int bt, .int (bI cl), .int cd, .int c3.1, .int c3.2.1, .int c3.2.2, .ref mne, .int nx, .int w3.1, .int w3.2.1, .int w3.2.2, .ref mina, .int gv, .ref mrl, .ref mra, .int lns, .int ps, .int st, .int (bI tu)]))]) [0] (by decide) rfl
    have hK9 := hK
    exact W.iret (v := nI wd) hx hb hr (fun t ht hW => ⟨⟨nI wd, 0, rfl, (by have h9 : f_Model_look wd bt cl cd c3 gv lns ps th x = (nI wd, 0) := (by exact ((if_pos c_1).trans (rfl))); exact ⟨(congrArg Prod.fst h9).symm, (congrArg Prod.snd h9).symm⟩), ⟨by rw [ht]; exact hP9, va_K.moved hW.alike hK9, hD9⟩⟩, hS.F ht⟩) hS.2.2 d_Model_look_64
  by_cases c_2 : x = 1
  · refine lv_tableIn (tgt := 65) (off := 59) hx hb d_Model_look_6 (by rw [c_2]; decide) (by rw [c_2]; decide) (by rw [c_2]; rfl) (by decide) ?_
    refine lv_aload_n hx hb d_Model_look_65 rfl (lv_at hl 0 rfl) ?_
    refine va_get (D := (dC, dI)) (ci := 7) (v := .int bt) (C := R_Model) (T := F_Model) (N := 30) hx hb hw i_Model hown hK hP 0 rfl rfl 11 (by decide) (hw _ m_675) (fun _ h9 => h9) rfl d_Model_look_66 ?_
    have hP9 := hP.sub (ws' := [(mm, .inr (7, [.ref mwr, .ref mbr, .ref mwb, .ref mbb, .ref mbl, .ref mmo, .int 0, .int (nI wd), .ref mli, .ref mab, .ref mou, .int bt, .int (bI cl), .int cd, .int c3.1, .int c3.2.1, .int c3.2.2, .ref mne, .int nx, .int w3.1, .int w3.2.1, .int w3.2.2, .ref mina, .int gv, .ref mrl, .ref mra, .int lns, .int ps, .int st, .int (bI tu)]))]) [0] rfl
    have hD9 := hD.sub (ws' := [(mm, .inr (7, [.ref mwr, .ref mbr, .ref mwb, .ref mbb, .ref mbl, .ref mmo, .int 0, .int (nI wd), .ref mli, .ref mab, .ref mou, .int bt, .int (bI cl), .int cd, .int c3.1, .int c3.2.1, .int c3.2.2, .ref mne, .int nx, .int w3.1, .int w3.2.1, .int w3.2.2, .ref mina, .int gv, .ref mrl, .ref mra, .int lns, .int ps, .int st, .int (bI tu)]))]) [0] (by decide) rfl
    have hK9 := hK
    exact W.iret (v := bt) hx hb hr (fun t ht hW => ⟨⟨bt, 0, rfl, (by have h9 : f_Model_look wd bt cl cd c3 gv lns ps th x = (bt, 0) := (by exact ((if_neg c_1).trans ((if_pos c_2).trans (rfl)))); exact ⟨(congrArg Prod.fst h9).symm, (congrArg Prod.snd h9).symm⟩), ⟨by rw [ht]; exact hP9, va_K.moved hW.alike hK9, hD9⟩⟩, hS.F ht⟩) hS.2.2 d_Model_look_69
  by_cases c_3 : x = 2
  · refine lv_tableIn (tgt := 70) (off := 64) hx hb d_Model_look_6 (by rw [c_3]; decide) (by rw [c_3]; decide) (by rw [c_3]; rfl) (by decide) ?_
    refine lv_aload_n hx hb d_Model_look_70 rfl (lv_at hl 0 rfl) ?_
    refine va_get (D := (dC, dI)) (ci := 7) (v := .int (bI cl)) (C := R_Model) (T := F_Model) (N := 30) hx hb hw i_Model hown hK hP 0 rfl rfl 12 (by decide) (hw _ m_676) (fun _ h9 => h9) rfl d_Model_look_71 ?_
    refine lv_if_eq (tgt := 81) hx hb d_Model_look_74 (by decide) (fun c_4 => ?_) (fun c_4 => ?_)
    · refine lv_iconst (v := 0) hx hb d_Model_look_81 (by decide) ?_
      have hP9 := hP.sub (ws' := [(mm, .inr (7, [.ref mwr, .ref mbr, .ref mwb, .ref mbb, .ref mbl, .ref mmo, .int 0, .int (nI wd), .ref mli, .ref mab, .ref mou, .int bt, .int (bI cl), .int cd, .int c3.1, .int c3.2.1, .int c3.2.2, .ref mne, .int nx, .int w3.1, .int w3.2.1, .int w3.2.2, .ref mina, .int gv, .ref mrl, .ref mra, .int lns, .int ps, .int st, .int (bI tu)]))]) [0] rfl
      have hD9 := hD.sub (ws' := [(mm, .inr (7, [.ref mwr, .ref mbr, .ref mwb, .ref mbb, .ref mbl, .ref mmo, .int 0, .int (nI wd), .ref mli, .ref mab, .ref mou, .int bt, .int (bI cl), .int cd, .int c3.1, .int c3.2.1, .int c3.2.2, .ref mne, .int nx, .int w3.1, .int w3.2.1, .int w3.2.2, .ref mina, .int gv, .ref mrl, .ref mra, .int lns, .int ps, .int st, .int (bI tu)]))]) [0] (by decide) rfl
      have hK9 := hK
      exact W.iret (v := 0) hx hb hr (fun t ht hW => ⟨⟨0, 0, rfl, (by have h9 : f_Model_look wd bt cl cd c3 gv lns ps th x = (0, 0) := (by exact ((if_neg c_1).trans ((if_neg c_2).trans ((if_pos c_3).trans ((if_pos c_4).trans (rfl)))))); exact ⟨(congrArg Prod.fst h9).symm, (congrArg Prod.snd h9).symm⟩), ⟨by rw [ht]; exact hP9, va_K.moved hW.alike hK9, hD9⟩⟩, hS.F ht⟩) hS.2.2 d_Model_look_82
    · refine lv_iconst (v := 1) hx hb d_Model_look_77 (by decide) ?_
      refine lv_goto (tgt := 82) hx hb d_Model_look_78 (by decide) ?_
      have hP9 := hP.sub (ws' := [(mm, .inr (7, [.ref mwr, .ref mbr, .ref mwb, .ref mbb, .ref mbl, .ref mmo, .int 0, .int (nI wd), .ref mli, .ref mab, .ref mou, .int bt, .int (bI cl), .int cd, .int c3.1, .int c3.2.1, .int c3.2.2, .ref mne, .int nx, .int w3.1, .int w3.2.1, .int w3.2.2, .ref mina, .int gv, .ref mrl, .ref mra, .int lns, .int ps, .int st, .int (bI tu)]))]) [0] rfl
      have hD9 := hD.sub (ws' := [(mm, .inr (7, [.ref mwr, .ref mbr, .ref mwb, .ref mbb, .ref mbl, .ref mmo, .int 0, .int (nI wd), .ref mli, .ref mab, .ref mou, .int bt, .int (bI cl), .int cd, .int c3.1, .int c3.2.1, .int c3.2.2, .ref mne, .int nx, .int w3.1, .int w3.2.1, .int w3.2.2, .ref mina, .int gv, .ref mrl, .ref mra, .int lns, .int ps, .int st, .int (bI tu)]))]) [0] (by decide) rfl
      have hK9 := hK
      exact W.iret (v := 1) hx hb hr (fun t ht hW => ⟨⟨1, 0, rfl, (by have h9 : f_Model_look wd bt cl cd c3 gv lns ps th x = (1, 0) := (by exact ((if_neg c_1).trans ((if_neg c_2).trans ((if_pos c_3).trans ((if_neg c_4).trans (rfl)))))); exact ⟨(congrArg Prod.fst h9).symm, (congrArg Prod.snd h9).symm⟩), ⟨by rw [ht]; exact hP9, va_K.moved hW.alike hK9, hD9⟩⟩, hS.F ht⟩) hS.2.2 d_Model_look_82
  by_cases c_5 : x = 3
  · refine lv_tableIn (tgt := 83) (off := 77) hx hb d_Model_look_6 (by rw [c_5]; decide) (by rw [c_5]; decide) (by rw [c_5]; rfl) (by decide) ?_
    refine lv_aload_n hx hb d_Model_look_83 rfl (lv_at hl 0 rfl) ?_
    refine va_get (D := (dC, dI)) (ci := 7) (v := .int gv) (C := R_Model) (T := F_Model) (N := 30) hx hb hw i_Model hown hK hP 0 rfl rfl 23 (by decide) (hw _ m_687) (fun _ h9 => h9) rfl d_Model_look_84 ?_
    have hP9 := hP.sub (ws' := [(mm, .inr (7, [.ref mwr, .ref mbr, .ref mwb, .ref mbb, .ref mbl, .ref mmo, .int 0, .int (nI wd), .ref mli, .ref mab, .ref mou, .int bt, .int (bI cl), .int cd, .int c3.1, .int c3.2.1, .int c3.2.2, .ref mne, .int nx, .int w3.1, .int w3.2.1, .int w3.2.2, .ref mina, .int gv, .ref mrl, .ref mra, .int lns, .int ps, .int st, .int (bI tu)]))]) [0] rfl
    have hD9 := hD.sub (ws' := [(mm, .inr (7, [.ref mwr, .ref mbr, .ref mwb, .ref mbb, .ref mbl, .ref mmo, .int 0, .int (nI wd), .ref mli, .ref mab, .ref mou, .int bt, .int (bI cl), .int cd, .int c3.1, .int c3.2.1, .int c3.2.2, .ref mne, .int nx, .int w3.1, .int w3.2.1, .int w3.2.2, .ref mina, .int gv, .ref mrl, .ref mra, .int lns, .int ps, .int st, .int (bI tu)]))]) [0] (by decide) rfl
    have hK9 := hK
    exact W.iret (v := gv) hx hb hr (fun t ht hW => ⟨⟨gv, 0, rfl, (by have h9 : f_Model_look wd bt cl cd c3 gv lns ps th x = (gv, 0) := (by exact ((if_neg c_1).trans ((if_neg c_2).trans ((if_neg c_3).trans ((if_pos c_5).trans (rfl)))))); exact ⟨(congrArg Prod.fst h9).symm, (congrArg Prod.snd h9).symm⟩), ⟨by rw [ht]; exact hP9, va_K.moved hW.alike hK9, hD9⟩⟩, hS.F ht⟩) hS.2.2 d_Model_look_87
  by_cases c_6 : x = 4
  · refine lv_tableIn (tgt := 88) (off := 82) hx hb d_Model_look_6 (by rw [c_6]; decide) (by rw [c_6]; decide) (by rw [c_6]; rfl) (by decide) ?_
    refine lv_aload_n hx hb d_Model_look_88 rfl (lv_at hl 0 rfl) ?_
    refine va_get (D := (dC, dI)) (ci := 7) (v := .int lns) (C := R_Model) (T := F_Model) (N := 30) hx hb hw i_Model hown hK hP 0 rfl rfl 26 (by decide) (hw _ m_690) (fun _ h9 => h9) rfl d_Model_look_89 ?_
    have hP9 := hP.sub (ws' := [(mm, .inr (7, [.ref mwr, .ref mbr, .ref mwb, .ref mbb, .ref mbl, .ref mmo, .int 0, .int (nI wd), .ref mli, .ref mab, .ref mou, .int bt, .int (bI cl), .int cd, .int c3.1, .int c3.2.1, .int c3.2.2, .ref mne, .int nx, .int w3.1, .int w3.2.1, .int w3.2.2, .ref mina, .int gv, .ref mrl, .ref mra, .int lns, .int ps, .int st, .int (bI tu)]))]) [0] rfl
    have hD9 := hD.sub (ws' := [(mm, .inr (7, [.ref mwr, .ref mbr, .ref mwb, .ref mbb, .ref mbl, .ref mmo, .int 0, .int (nI wd), .ref mli, .ref mab, .ref mou, .int bt, .int (bI cl), .int cd, .int c3.1, .int c3.2.1, .int c3.2.2, .ref mne, .int nx, .int w3.1, .int w3.2.1, .int w3.2.2, .ref mina, .int gv, .ref mrl, .ref mra, .int lns, .int ps, .int st, .int (bI tu)]))]) [0] (by decide) rfl
    have hK9 := hK
    exact W.iret (v := lns) hx hb hr (fun t ht hW => ⟨⟨lns, 0, rfl, (by have h9 : f_Model_look wd bt cl cd c3 gv lns ps th x = (lns, 0) := (by exact ((if_neg c_1).trans ((if_neg c_2).trans ((if_neg c_3).trans ((if_neg c_5).trans ((if_pos c_6).trans (rfl))))))); exact ⟨(congrArg Prod.fst h9).symm, (congrArg Prod.snd h9).symm⟩), ⟨by rw [ht]; exact hP9, va_K.moved hW.alike hK9, hD9⟩⟩, hS.F ht⟩) hS.2.2 d_Model_look_92
  by_cases c_7 : x = 5
  · refine lv_tableIn (tgt := 93) (off := 87) hx hb d_Model_look_6 (by rw [c_7]; decide) (by rw [c_7]; decide) (by rw [c_7]; rfl) (by decide) ?_
    refine lv_aload_n hx hb d_Model_look_93 rfl (lv_at hl 0 rfl) ?_
    refine va_get (D := (dC, dI)) (ci := 7) (v := .int cd) (C := R_Model) (T := F_Model) (N := 30) hx hb hw i_Model hown hK hP 0 rfl rfl 13 (by decide) (hw _ m_677) (fun _ h9 => h9) rfl d_Model_look_94 ?_
    have hP9 := hP.sub (ws' := [(mm, .inr (7, [.ref mwr, .ref mbr, .ref mwb, .ref mbb, .ref mbl, .ref mmo, .int 0, .int (nI wd), .ref mli, .ref mab, .ref mou, .int bt, .int (bI cl), .int cd, .int c3.1, .int c3.2.1, .int c3.2.2, .ref mne, .int nx, .int w3.1, .int w3.2.1, .int w3.2.2, .ref mina, .int gv, .ref mrl, .ref mra, .int lns, .int ps, .int st, .int (bI tu)]))]) [0] rfl
    have hD9 := hD.sub (ws' := [(mm, .inr (7, [.ref mwr, .ref mbr, .ref mwb, .ref mbb, .ref mbl, .ref mmo, .int 0, .int (nI wd), .ref mli, .ref mab, .ref mou, .int bt, .int (bI cl), .int cd, .int c3.1, .int c3.2.1, .int c3.2.2, .ref mne, .int nx, .int w3.1, .int w3.2.1, .int w3.2.2, .ref mina, .int gv, .ref mrl, .ref mra, .int lns, .int ps, .int st, .int (bI tu)]))]) [0] (by decide) rfl
    have hK9 := hK
    exact W.iret (v := cd) hx hb hr (fun t ht hW => ⟨⟨cd, 0, rfl, (by have h9 : f_Model_look wd bt cl cd c3 gv lns ps th x = (cd, 0) := (by exact ((if_neg c_1).trans ((if_neg c_2).trans ((if_neg c_3).trans ((if_neg c_5).trans ((if_neg c_6).trans ((if_pos c_7).trans (rfl)))))))); exact ⟨(congrArg Prod.fst h9).symm, (congrArg Prod.snd h9).symm⟩), ⟨by rw [ht]; exact hP9, va_K.moved hW.alike hK9, hD9⟩⟩, hS.F ht⟩) hS.2.2 d_Model_look_97
  by_cases c_8 : x = 6
  · refine lv_tableIn (tgt := 98) (off := 92) hx hb d_Model_look_6 (by rw [c_8]; decide) (by rw [c_8]; decide) (by rw [c_8]; rfl) (by decide) ?_
    refine lv_aload_n hx hb d_Model_look_98 rfl (lv_at hl 0 rfl) ?_
    refine va_get (D := (dC, dI)) (ci := 7) (v := .int c3.1) (C := R_Model) (T := F_Model) (N := 30) hx hb hw i_Model hown hK hP 0 rfl rfl 14 (by decide) (hw _ m_678) (fun _ h9 => h9) rfl d_Model_look_99 ?_
    have hP9 := hP.sub (ws' := [(mm, .inr (7, [.ref mwr, .ref mbr, .ref mwb, .ref mbb, .ref mbl, .ref mmo, .int 0, .int (nI wd), .ref mli, .ref mab, .ref mou, .int bt, .int (bI cl), .int cd, .int c3.1, .int c3.2.1, .int c3.2.2, .ref mne, .int nx, .int w3.1, .int w3.2.1, .int w3.2.2, .ref mina, .int gv, .ref mrl, .ref mra, .int lns, .int ps, .int st, .int (bI tu)]))]) [0] rfl
    have hD9 := hD.sub (ws' := [(mm, .inr (7, [.ref mwr, .ref mbr, .ref mwb, .ref mbb, .ref mbl, .ref mmo, .int 0, .int (nI wd), .ref mli, .ref mab, .ref mou, .int bt, .int (bI cl), .int cd, .int c3.1, .int c3.2.1, .int c3.2.2, .ref mne, .int nx, .int w3.1, .int w3.2.1, .int w3.2.2, .ref mina, .int gv, .ref mrl, .ref mra, .int lns, .int ps, .int st, .int (bI tu)]))]) [0] (by decide) rfl
    have hK9 := hK
    exact W.iret (v := c3.1) hx hb hr (fun t ht hW => ⟨⟨c3.1, 0, rfl, (by have h9 : f_Model_look wd bt cl cd c3 gv lns ps th x = (c3.1, 0) := (by exact ((if_neg c_1).trans ((if_neg c_2).trans ((if_neg c_3).trans ((if_neg c_5).trans ((if_neg c_6).trans ((if_neg c_7).trans ((if_pos c_8).trans (rfl))))))))); exact ⟨(congrArg Prod.fst h9).symm, (congrArg Prod.snd h9).symm⟩), ⟨by rw [ht]; exact hP9, va_K.moved hW.alike hK9, hD9⟩⟩, hS.F ht⟩) hS.2.2 d_Model_look_102
  by_cases c_9 : x = 7
  · refine lv_tableIn (tgt := 103) (off := 97) hx hb d_Model_look_6 (by rw [c_9]; decide) (by rw [c_9]; decide) (by rw [c_9]; rfl) (by decide) ?_
    refine lv_aload_n hx hb d_Model_look_103 rfl (lv_at hl 0 rfl) ?_
    refine va_get (D := (dC, dI)) (ci := 7) (v := .int c3.2.1) (C := R_Model) (T := F_Model) (N := 30) hx hb hw i_Model hown hK hP 0 rfl rfl 15 (by decide) (hw _ m_679) (fun _ h9 => h9) rfl d_Model_look_104 ?_
    have hP9 := hP.sub (ws' := [(mm, .inr (7, [.ref mwr, .ref mbr, .ref mwb, .ref mbb, .ref mbl, .ref mmo, .int 0, .int (nI wd), .ref mli, .ref mab, .ref mou, .int bt, .int (bI cl), .int cd, .int c3.1, .int c3.2.1, .int c3.2.2, .ref mne, .int nx, .int w3.1, .int w3.2.1, .int w3.2.2, .ref mina, .int gv, .ref mrl, .ref mra, .int lns, .int ps, .int st, .int (bI tu)]))]) [0] rfl
    have hD9 := hD.sub (ws' := [(mm, .inr (7, [.ref mwr, .ref mbr, .ref mwb, .ref mbb, .ref mbl, .ref mmo, .int 0, .int (nI wd), .ref mli, .ref mab, .ref mou, .int bt, .int (bI cl), .int cd, .int c3.1, .int c3.2.1, .int c3.2.2, .ref mne, .int nx, .int w3.1, .int w3.2.1, .int w3.2.2, .ref mina, .int gv, .ref mrl, .ref mra, .int lns, .int ps, .int st, .int (bI tu)]))]) [0] (by decide) rfl
    have hK9 := hK
    exact W.iret (v := c3.2.1) hx hb hr (fun t ht hW => ⟨⟨c3.2.1, 0, rfl, (by have h9 : f_Model_look wd bt cl cd c3 gv lns ps th x = (c3.2.1, 0) := (by exact ((if_neg c_1).trans ((if_neg c_2).trans ((if_neg c_3).trans ((if_neg c_5).trans ((if_neg c_6).trans ((if_neg c_7).trans ((if_neg c_8).trans ((if_pos c_9).trans (rfl)))))))))); exact ⟨(congrArg Prod.fst h9).symm, (congrArg Prod.snd h9).symm⟩), ⟨by rw [ht]; exact hP9, va_K.moved hW.alike hK9, hD9⟩⟩, hS.F ht⟩) hS.2.2 d_Model_look_107
  by_cases c_10 : x = 8
  · refine lv_tableIn (tgt := 108) (off := 102) hx hb d_Model_look_6 (by rw [c_10]; decide) (by rw [c_10]; decide) (by rw [c_10]; rfl) (by decide) ?_
    refine lv_aload_n hx hb d_Model_look_108 rfl (lv_at hl 0 rfl) ?_
    refine va_get (D := (dC, dI)) (ci := 7) (v := .int c3.2.2) (C := R_Model) (T := F_Model) (N := 30) hx hb hw i_Model hown hK hP 0 rfl rfl 16 (by decide) (hw _ m_680) (fun _ h9 => h9) rfl d_Model_look_109 ?_
    have hP9 := hP.sub (ws' := [(mm, .inr (7, [.ref mwr, .ref mbr, .ref mwb, .ref mbb, .ref mbl, .ref mmo, .int 0, .int (nI wd), .ref mli, .ref mab, .ref mou, .int bt, .int (bI cl), .int cd, .int c3.1, .int c3.2.1, .int c3.2.2, .ref mne, .int nx, .int w3.1, .int w3.2.1, .int w3.2.2, .ref mina, .int gv, .ref mrl, .ref mra, .int lns, .int ps, .int st, .int (bI tu)]))]) [0] rfl
    have hD9 := hD.sub (ws' := [(mm, .inr (7, [.ref mwr, .ref mbr, .ref mwb, .ref mbb, .ref mbl, .ref mmo, .int 0, .int (nI wd), .ref mli, .ref mab, .ref mou, .int bt, .int (bI cl), .int cd, .int c3.1, .int c3.2.1, .int c3.2.2, .ref mne, .int nx, .int w3.1, .int w3.2.1, .int w3.2.2, .ref mina, .int gv, .ref mrl, .ref mra, .int lns, .int ps, .int st, .int (bI tu)]))]) [0] (by decide) rfl
    have hK9 := hK
    exact W.iret (v := c3.2.2) hx hb hr (fun t ht hW => ⟨⟨c3.2.2, 0, rfl, (by have h9 : f_Model_look wd bt cl cd c3 gv lns ps th x = (c3.2.2, 0) := (by exact ((if_neg c_1).trans ((if_neg c_2).trans ((if_neg c_3).trans ((if_neg c_5).trans ((if_neg c_6).trans ((if_neg c_7).trans ((if_neg c_8).trans ((if_neg c_9).trans ((if_pos c_10).trans (rfl))))))))))); exact ⟨(congrArg Prod.fst h9).symm, (congrArg Prod.snd h9).symm⟩), ⟨by rw [ht]; exact hP9, va_K.moved hW.alike hK9, hD9⟩⟩, hS.F ht⟩) hS.2.2 d_Model_look_112
  by_cases c_11 : x = 9
  · refine lv_tableIn (tgt := 113) (off := 107) hx hb d_Model_look_6 (by rw [c_11]; decide) (by rw [c_11]; decide) (by rw [c_11]; rfl) (by decide) ?_
    refine lv_aload_n hx hb d_Model_look_113 rfl (lv_at hl 0 rfl) ?_
    refine va_get (D := (dC, dI)) (ci := 7) (v := .int ps) (C := R_Model) (T := F_Model) (N := 30) hx hb hw i_Model hown hK hP 0 rfl rfl 27 (by decide) (hw _ m_691) (fun _ h9 => h9) rfl d_Model_look_114 ?_
    have hP9 := hP.sub (ws' := [(mm, .inr (7, [.ref mwr, .ref mbr, .ref mwb, .ref mbb, .ref mbl, .ref mmo, .int 0, .int (nI wd), .ref mli, .ref mab, .ref mou, .int bt, .int (bI cl), .int cd, .int c3.1, .int c3.2.1, .int c3.2.2, .ref mne, .int nx, .int w3.1, .int w3.2.1, .int w3.2.2, .ref mina, .int gv, .ref mrl, .ref mra, .int lns, .int ps, .int st, .int (bI tu)]))]) [0] rfl
    have hD9 := hD.sub (ws' := [(mm, .inr (7, [.ref mwr, .ref mbr, .ref mwb, .ref mbb, .ref mbl, .ref mmo, .int 0, .int (nI wd), .ref mli, .ref mab, .ref mou, .int bt, .int (bI cl), .int cd, .int c3.1, .int c3.2.1, .int c3.2.2, .ref mne, .int nx, .int w3.1, .int w3.2.1, .int w3.2.2, .ref mina, .int gv, .ref mrl, .ref mra, .int lns, .int ps, .int st, .int (bI tu)]))]) [0] (by decide) rfl
    have hK9 := hK
    exact W.iret (v := ps) hx hb hr (fun t ht hW => ⟨⟨ps, 0, rfl, (by have h9 : f_Model_look wd bt cl cd c3 gv lns ps th x = (ps, 0) := (by exact ((if_neg c_1).trans ((if_neg c_2).trans ((if_neg c_3).trans ((if_neg c_5).trans ((if_neg c_6).trans ((if_neg c_7).trans ((if_neg c_8).trans ((if_neg c_9).trans ((if_neg c_10).trans ((if_pos c_11).trans (rfl)))))))))))); exact ⟨(congrArg Prod.fst h9).symm, (congrArg Prod.snd h9).symm⟩), ⟨by rw [ht]; exact hP9, va_K.moved hW.alike hK9, hD9⟩⟩, hS.F ht⟩) hS.2.2 d_Model_look_117
  refine lv_tableOut (tgt := 118) hx hb d_Model_look_6 (by have nc_1 : ¬ Int32.toInt (x) = 0 := fun h => c_1 (Int32.toInt_inj.mp (h.trans rfl)); have nc_2 : ¬ Int32.toInt (x) = 1 := fun h => c_2 (Int32.toInt_inj.mp (h.trans rfl)); have nc_3 : ¬ Int32.toInt (x) = 2 := fun h => c_3 (Int32.toInt_inj.mp (h.trans rfl)); have nc_5 : ¬ Int32.toInt (x) = 3 := fun h => c_5 (Int32.toInt_inj.mp (h.trans rfl)); have nc_6 : ¬ Int32.toInt (x) = 4 := fun h => c_6 (Int32.toInt_inj.mp (h.trans rfl)); have nc_7 : ¬ Int32.toInt (x) = 5 := fun h => c_7 (Int32.toInt_inj.mp (h.trans rfl)); have nc_8 : ¬ Int32.toInt (x) = 6 := fun h => c_8 (Int32.toInt_inj.mp (h.trans rfl)); have nc_9 : ¬ Int32.toInt (x) = 7 := fun h => c_9 (Int32.toInt_inj.mp (h.trans rfl)); have nc_10 : ¬ Int32.toInt (x) = 8 := fun h => c_10 (Int32.toInt_inj.mp (h.trans rfl)); have nc_11 : ¬ Int32.toInt (x) = 9 := fun h => c_11 (Int32.toInt_inj.mp (h.trans rfl)); omega) (by decide) ?_
  refine lv_iconst (v := (-1)) hx hb d_Model_look_118 (by decide) ?_
  have hP9 := hP.sub (ws' := [(mm, .inr (7, [.ref mwr, .ref mbr, .ref mwb, .ref mbb, .ref mbl, .ref mmo, .int 0, .int (nI wd), .ref mli, .ref mab, .ref mou, .int bt, .int (bI cl), .int cd, .int c3.1, .int c3.2.1, .int c3.2.2, .ref mne, .int nx, .int w3.1, .int w3.2.1, .int w3.2.2, .ref mina, .int gv, .ref mrl, .ref mra, .int lns, .int ps, .int st, .int (bI tu)]))]) [0] rfl
  have hD9 := hD.sub (ws' := [(mm, .inr (7, [.ref mwr, .ref mbr, .ref mwb, .ref mbb, .ref mbl, .ref mmo, .int 0, .int (nI wd), .ref mli, .ref mab, .ref mou, .int bt, .int (bI cl), .int cd, .int c3.1, .int c3.2.1, .int c3.2.2, .ref mne, .int nx, .int w3.1, .int w3.2.1, .int w3.2.2, .ref mina, .int gv, .ref mrl, .ref mra, .int lns, .int ps, .int st, .int (bI tu)]))]) [0] (by decide) rfl
  have hK9 := hK
  exact W.iret (v := (-1)) hx hb hr (fun t ht hW => ⟨⟨(-1), 0, rfl, (by have h9 : f_Model_look wd bt cl cd c3 gv lns ps th x = ((-1), 0) := (by exact ((if_neg c_1).trans ((if_neg c_2).trans ((if_neg c_3).trans ((if_neg c_5).trans ((if_neg c_6).trans ((if_neg c_7).trans ((if_neg c_8).trans ((if_neg c_9).trans ((if_neg c_10).trans ((if_neg c_11).trans (rfl)))))))))))); exact ⟨(congrArg Prod.fst h9).symm, (congrArg Prod.snd h9).symm⟩), ⟨by rw [ht]; exact hP9, va_K.moved hW.alike hK9, hD9⟩⟩, hS.F ht⟩) hS.2.2 d_Model_look_119
def l_Model_fill_11 (wd : Nat) (rln : Nat → Bool) (x : Int32) (to : Int32) (bk : Bool) : Nat → (Nat → Bool) → Int32 → (Nat → Bool)
  | 0, _, _ => default
  | n11 + 1, g, k => if to ≤ k then (g) else (let g_3 := uB g k.toNatClampNeg bk; let x_4 := k + 1; l_Model_fill_11 wd rln x to bk n11 g_3 x_4)
def f_Model_fill (wd : Nat) (rln : Nat → Bool) (x : Int32) (to : Int32) (bk : Bool) : (Nat → Bool) := if 0 ≤ x then (l_Model_fill_11 wd rln x to bk ((Int32.toInt to - Int32.toInt x).toNat + 1) rln x) else (l_Model_fill_11 wd rln x to bk ((Int32.toInt to - Int32.toInt (0 : Int32)).toNat + 1) rln (0 : Int32))
set_option maxHeartbeats 4000000 in
set_option maxRecDepth 100000 in
theorem c_Model_fill (l : Launch) (dC : Nat → ClassId) (dI : Nat → Nat → Nat) (cI cZ : ClassId) (mm : Nat) (mwr : Nat) (mbr : Nat) (mwb : Nat) (mbb : Nat) (mbl : Nat) (mmo : Nat) (mli : Nat) (mab : Nat) (mou : Nat) (mne : Nat) (mina : Nat) (mrl : Nat) (mra : Nat) (wd : Nat) (th : Int32) (bt : Int32) (cl : Bool) (cd : Int32) (c3 : Int32 × Int32 × Int32) (nx : Int32) (w3 : Int32 × Int32 × Int32) (gv : Int32) (lns : Int32) (ps : Int32) (st : Int32) (tu : Bool) (sz : Nat) (rln : Nat → Bool) (x : Int32) (to : Int32) (bk : Bool) (hwd : wd ≤ 10000) (hto : to.toInt ≤ wd) : Met l y_Model_fill w_Model_fill ({ frames := 0, cells := 0, slots := 0, locals := 0 }) (va_Pc [.ref mm, .int x, .int to, .int (bI bk)] (fun U => U.heap.size = sz ∧ va_P (dC, dI) classes [(mm, .inr (7, [.ref mwr, .ref mbr, .ref mwb, .ref mbb, .ref mbl, .ref mmo, .int th, .int (nI wd), .ref mli, .ref mab, .ref mou, .int bt, .int (bI cl), .int cd, .int c3.1, .int c3.2.1, .int c3.2.2, .ref mne, .int nx, .int w3.1, .int w3.2.1, .int w3.2.2, .ref mina, .int gv, .ref mrl, .ref mra, .int lns, .int ps, .int st, .int (bI tu)])), (mrl, .inl (cZ, wd, .inl (fun jz => bI (rln jz))))] U.heap ∧ va_K (dC, dI) classes [(cI, .int), (cZ, .boolean)] U ∧ va_D (fun _ => True) [(mm, .inr (7, [.ref mwr, .ref mbr, .ref mwb, .ref mbb, .ref mbl, .ref mmo, .int th, .int (nI wd), .ref mli, .ref mab, .ref mou, .int bt, .int (bI cl), .int cd, .int c3.1, .int c3.2.1, .int c3.2.2, .ref mne, .int nx, .int w3.1, .int w3.2.1, .int w3.2.2, .ref mina, .int gv, .ref mrl, .ref mra, .int lns, .int ps, .int st, .int (bI tu)])), (mrl, .inl (cZ, wd, .inl (fun jz => bI (rln jz))))])) (va_Qv (fun (u : (Nat → Bool)) => u = f_Model_fill wd rln x to bk) (fun (u : (Nat → Bool)) (t : State) => va_P (dC, dI) classes [(mm, .inr (7, [.ref mwr, .ref mbr, .ref mwb, .ref mbb, .ref mbl, .ref mmo, .int th, .int (nI wd), .ref mli, .ref mab, .ref mou, .int bt, .int (bI cl), .int cd, .int c3.1, .int c3.2.1, .int c3.2.2, .ref mne, .int nx, .int w3.1, .int w3.2.1, .int w3.2.2, .ref mina, .int gv, .ref mrl, .ref mra, .int lns, .int ps, .int st, .int (bI tu)])), (mrl, .inl (cZ, wd, .inl (fun jz => bI (u jz))))] t.heap ∧ va_K (dC, dI) classes [(cI, .int), (cZ, .boolean)] t ∧ va_D (va_A [(mm, .inr (7, [.ref mwr, .ref mbr, .ref mwb, .ref mbb, .ref mbl, .ref mmo, .int th, .int (nI wd), .ref mli, .ref mab, .ref mou, .int bt, .int (bI cl), .int cd, .int c3.1, .int c3.2.1, .int c3.2.2, .ref mne, .int nx, .int w3.1, .int w3.2.1, .int w3.2.2, .ref mina, .int gv, .ref mrl, .ref mra, .int lns, .int ps, .int st, .int (bI tu)])), (mrl, .inl (cZ, wd, .inl (fun jz => bI (rln jz))))] sz) [(mm, .inr (7, [.ref mwr, .ref mbr, .ref mwb, .ref mbb, .ref mbl, .ref mmo, .int th, .int (nI wd), .ref mli, .ref mab, .ref mou, .int bt, .int (bI cl), .int cd, .int c3.1, .int c3.2.1, .int c3.2.2, .ref mne, .int nx, .int w3.1, .int w3.2.1, .int w3.2.2, .ref mina, .int gv, .ref mrl, .ref mra, .int lns, .int ps, .int st, .int (bI tu)])), (mrl, .inl (cZ, wd, .inl (fun jz => bI (u jz))))]) (va_A [(mm, .inr (7, [.ref mwr, .ref mbr, .ref mwb, .ref mbb, .ref mbl, .ref mmo, .int th, .int (nI wd), .ref mli, .ref mab, .ref mou, .int bt, .int (bI cl), .int cd, .int c3.1, .int c3.2.1, .int c3.2.2, .ref mne, .int nx, .int w3.1, .int w3.2.1, .int w3.2.2, .ref mina, .int gv, .ref mrl, .ref mra, .int lns, .int ps, .int st, .int (bI tu)])), (mrl, .inl (cZ, wd, .inl (fun jz => bI (rln jz))))] sz)) 0 0 (va_A [(mm, .inr (7, [.ref mwr, .ref mbr, .ref mwb, .ref mbb, .ref mbl, .ref mmo, .int th, .int (nI wd), .ref mli, .ref mab, .ref mou, .int bt, .int (bI cl), .int cd, .int c3.1, .int c3.2.1, .int c3.2.2, .ref mne, .int nx, .int w3.1, .int w3.2.1, .int w3.2.2, .ref mina, .int gv, .ref mrl, .ref mra, .int lns, .int ps, .int st, .int (bI tu)])), (mrl, .inl (cZ, wd, .inl (fun jz => bI (rln jz))))] sz) := by
  refine Met.ofW (cc := b_Model_fill) (maxL := 5) (ret := none) (by decide) rfl ?_
  intro p e s m args below meth c s₁ B hml hv
  obtain ⟨rfl, hsz, hP, hK, hD0⟩ := hv
  have hx := B.exec
  have hb := B.bytes
  have hr := B.returns
  have hts := atoms_spec (ws := w_Model_fill) B.pre
  have hw : ∀ w ∈ WA, w.before _ s = true := fun w h => hts w (List.mem_cons_of_mem _ h)
  have hown : s.vm.findClass R_Model = some m.cls := findClass_of_methodNamed B.named
  have hlocks := B.notSynchronized
  subst hsz
  have hD := hD0.self (sz := s.heap.size)
  generalize hAe : va_A [(mm, .inr (7, [.ref mwr, .ref mbr, .ref mwb, .ref mbb, .ref mbl, .ref mmo, .int th, .int (nI wd), .ref mli, .ref mab, .ref mou, .int bt, .int (bI cl), .int cd, .int c3.1, .int c3.2.1, .int c3.2.2, .ref mne, .int nx, .int w3.1, .int w3.2.1, .int w3.2.2, .ref mina, .int gv, .ref mrl, .ref mra, .int lns, .int ps, .int st, .int (bI tu)])), (mrl, .inl (cZ, wd, .inl (fun jz => bI (rln jz))))] s.heap.size = A at hD ⊢
  have hA : ∀ q : Nat, s.heap.size ≤ q → A q := fun q h => by rw [← hAe]; exact Or.inr h
  have hS : va_S A s.heap s.heap [] := va_S.rf
  have hP : va_P (dC, dI) classes [(mm, .inr (7, [.ref mwr, .ref mbr, .ref mwb, .ref mbb, .ref mbl, .ref mmo, .int th, .int (nI wd), .ref mli, .ref mab, .ref mou, .int bt, .int (bI cl), .int cd, .int c3.1, .int c3.2.1, .int c3.2.2, .ref mne, .int nx, .int w3.1, .int w3.2.1, .int w3.2.2, .ref mina, .int gv, .ref mrl, .ref mra, .int lns, .int ps, .int st, .int (bI tu)])), (mrl, .inl (cZ, wd, .inl (fun jz => bI (rln jz))))] s.heap := hP
  have hl := lv_entry ([.ref mm, .int x, .int to, .int (bI bk)]) (n := 5) (Nat.le_of_ble_eq_true rfl)
  rw [lg_entry_eq]
  generalize (lg_sl ([.ref mm, .int x, .int to, .int (bI bk)]) ++ List.replicate (5 - (lg_sl ([.ref mm, .int x, .int to, .int (bI bk)])).length) Slot.unset).toArray = ls at hl ⊢
  have hl : lv_has ls 5 [(0, .ref mm), (1, .int x), (2, .int to), (3, .int (bI bk))] := hl
  refine lv_iload_n hx hb d_Model_fill_0 rfl (lv_at hl 1 rfl) ?_
  refine lv_if_ge (tgt := 8) hx hb d_Model_fill_1 (by decide) (fun c_1 => ?_) (fun c_1 => ?_)
  · refine lv_iload_n hx hb d_Model_fill_8 rfl (lv_at hl 1 rfl) ?_
    refine lv_istore (lv' := [(4, .int x), (0, .ref mm), (1, .int x), (2, .int to), (3, .int (bI bk))]) hx hb d_Model_fill_9 hl (by decide) rfl (fun ls hl => ?_)
    have hF9 : f_Model_fill wd rln x to bk = l_Model_fill_11 wd rln x to bk ((Int32.toInt to - Int32.toInt x).toNat + 1) rln x := (by exact ((if_pos c_1).trans (rfl)))
    have hI9 : 0 ≤ Int32.toInt x := (by have h9 := c_1; rw [ti_le, ti_0] at h9; exact h9)
    have hP9 := hP.sub (ws' := [(mm, .inr (7, [.ref mwr, .ref mbr, .ref mwb, .ref mbb, .ref mbl, .ref mmo, .int th, .int (nI wd), .ref mli, .ref mab, .ref mou, .int bt, .int (bI cl), .int cd, .int c3.1, .int c3.2.1, .int c3.2.2, .ref mne, .int nx, .int w3.1, .int w3.2.1, .int w3.2.2, .ref mina, .int gv, .ref mrl, .ref mra, .int lns, .int ps, .int st, .int (bI tu)])), (mrl, .inl (cZ, wd, .inl (fun jz => bI (rln jz))))]) [0, 1] rfl
    have hD9 := hD.sub (ws' := [(mm, .inr (7, [.ref mwr, .ref mbr, .ref mwb, .ref mbb, .ref mbl, .ref mmo, .int th, .int (nI wd), .ref mli, .ref mab, .ref mou, .int bt, .int (bI cl), .int cd, .int c3.1, .int c3.2.1, .int c3.2.2, .ref mne, .int nx, .int w3.1, .int w3.2.1, .int w3.2.2, .ref mina, .int gv, .ref mrl, .ref mra, .int lns, .int ps, .int st, .int (bI tu)])), (mrl, .inl (cZ, wd, .inl (fun jz => bI (rln jz))))]) [0, 1] (by decide) rfl
    have hl9 := lv_sub (l' := [(4, .int x), (0, .ref mm), (1, .int x), (2, .int to), (3, .int (bI bk))]) hl [0, 1, 2, 3, 4] rfl
    refine lp_n (pc := 11) (σ := (Nat → Bool) × Int32) (I := fun nQ vQ H locs ls => (Int32.toInt to - Int32.toInt vQ.2).toNat < nQ ∧ f_Model_fill wd rln x to bk = l_Model_fill_11 wd rln x to bk nQ vQ.1 vQ.2 ∧ (0 ≤ Int32.toInt vQ.2) ∧ va_P (dC, dI) classes [(mm, .inr (7, [.ref mwr, .ref mbr, .ref mwb, .ref mbb, .ref mbl, .ref mmo, .int th, .int (nI wd), .ref mli, .ref mab, .ref mou, .int bt, .int (bI cl), .int cd, .int c3.1, .int c3.2.1, .int c3.2.2, .ref mne, .int nx, .int w3.1, .int w3.2.1, .int w3.2.2, .ref mina, .int gv, .ref mrl, .ref mra, .int lns, .int ps, .int st, .int (bI tu)])), (mrl, .inl (cZ, wd, .inl (fun jz => bI (vQ.1 jz))))] H ∧ va_D A [(mm, .inr (7, [.ref mwr, .ref mbr, .ref mwb, .ref mbb, .ref mbl, .ref mmo, .int th, .int (nI wd), .ref mli, .ref mab, .ref mou, .int bt, .int (bI cl), .int cd, .int c3.1, .int c3.2.1, .int c3.2.2, .ref mne, .int nx, .int w3.1, .int w3.2.1, .int w3.2.2, .ref mina, .int gv, .ref mrl, .ref mra, .int lns, .int ps, .int st, .int (bI tu)])), (mrl, .inl (cZ, wd, .inl (fun jz => bI (vQ.1 jz))))] ∧ va_S A s.heap H locs ∧ lv_has ls 5 [(4, .int vQ.2), (0, .ref mm), (1, .int x), (2, .int to), (3, .int (bI bk))]) (fun vQ H locs ls h => absurd h.1 (Nat.not_lt_zero _)) ?_ ((Int32.toInt to - Int32.toInt x).toNat + 1) (rln, x) _ _ _ ⟨Nat.lt_succ_self _, hF9, hI9, hP9, hD9, hS, hl9⟩
    intro n11 ih11 vQ H locs ls hI
    obtain ⟨g, k⟩ := vQ
    obtain ⟨hmu11, hF11, hinv, hP, hD, hS, hl⟩ := hI
    have hinv : 0 ≤ Int32.toInt k := hinv
    obtain hj := hinv
    have hmu11 : (Int32.toInt to - Int32.toInt k).toNat < n11 + 1 := hmu11
    have hF11 : f_Model_fill wd rln x to bk = l_Model_fill_11 wd rln x to bk (n11 + 1) g k := hF11
    have hP : va_P (dC, dI) classes [(mm, .inr (7, [.ref mwr, .ref mbr, .ref mwb, .ref mbb, .ref mbl, .ref mmo, .int th, .int (nI wd), .ref mli, .ref mab, .ref mou, .int bt, .int (bI cl), .int cd, .int c3.1, .int c3.2.1, .int c3.2.2, .ref mne, .int nx, .int w3.1, .int w3.2.1, .int w3.2.2, .ref mina, .int gv, .ref mrl, .ref mra, .int lns, .int ps, .int st, .int (bI tu)])), (mrl, .inl (cZ, wd, .inl (fun jz => bI (g jz))))] H := hP
    have hD : va_D A [(mm, .inr (7, [.ref mwr, .ref mbr, .ref mwb, .ref mbb, .ref mbl, .ref mmo, .int th, .int (nI wd), .ref mli, .ref mab, .ref mou, .int bt, .int (bI cl), .int cd, .int c3.1, .int c3.2.1, .int c3.2.2, .ref mne, .int nx, .int w3.1, .int w3.2.1, .int w3.2.2, .ref mina, .int gv, .ref mrl, .ref mra, .int lns, .int ps, .int st, .int (bI tu)])), (mrl, .inl (cZ, wd, .inl (fun jz => bI (g jz))))] := hD
    have hl : lv_has ls 5 [(4, .int k), (0, .ref mm), (1, .int x), (2, .int to), (3, .int (bI bk))] := hl
    refine lv_iload hx hb d_Model_fill_11 (lv_at hl 0 rfl) ?_
    refine lv_iload_n hx hb d_Model_fill_13 rfl (lv_at hl 3 rfl) ?_
    refine lv_icmp_ge (tgt := 31) hx hb d_Model_fill_14 (by decide) (fun c_2 => ?_) (fun c_2 => ?_)
    · have hP9 := hP.sub (ws' := [(mm, .inr (7, [.ref mwr, .ref mbr, .ref mwb, .ref mbb, .ref mbl, .ref mmo, .int th, .int (nI wd), .ref mli, .ref mab, .ref mou, .int bt, .int (bI cl), .int cd, .int c3.1, .int c3.2.1, .int c3.2.2, .ref mne, .int nx, .int w3.1, .int w3.2.1, .int w3.2.2, .ref mina, .int gv, .ref mrl, .ref mra, .int lns, .int ps, .int st, .int (bI tu)])), (mrl, .inl (cZ, wd, .inl (fun jz => bI (g jz))))]) [0, 1] rfl
      have hD9 := hD.sub (ws' := [(mm, .inr (7, [.ref mwr, .ref mbr, .ref mwb, .ref mbb, .ref mbl, .ref mmo, .int th, .int (nI wd), .ref mli, .ref mab, .ref mou, .int bt, .int (bI cl), .int cd, .int c3.1, .int c3.2.1, .int c3.2.2, .ref mne, .int nx, .int w3.1, .int w3.2.1, .int w3.2.2, .ref mina, .int gv, .ref mrl, .ref mra, .int lns, .int ps, .int st, .int (bI tu)])), (mrl, .inl (cZ, wd, .inl (fun jz => bI (g jz))))]) [0, 1] (by decide) rfl
      have hK9 := hK
      exact W.vret hx hb hr (fun t ht hW => ⟨⟨g, rfl, (by have h9 : f_Model_fill wd rln x to bk = g := (by exact (hF11.trans ((if_pos c_2).trans (rfl)))); exact h9.symm), ⟨by rw [ht]; exact hP9, va_K.moved hW.alike hK9, hD9⟩⟩, hS.F ht⟩) hS.2.2 d_Model_fill_31
    · refine lv_aload_n hx hb d_Model_fill_17 rfl (lv_at hl 1 rfl) ?_
      refine va_get (D := (dC, dI)) (ci := 7) (v := .ref mrl) (C := R_Model) (T := F_Model) (N := 30) hx hb hw i_Model hown hK hP 0 rfl rfl 24 (by decide) (hw _ m_688) (fun _ h9 => h9) rfl d_Model_fill_18 ?_
      refine lv_iload hx hb d_Model_fill_21 (lv_at hl 0 rfl) ?_
      refine lv_iload_n hx hb d_Model_fill_23 rfl (lv_at hl 4 rfl) ?_
      refine va_zast (x := bI bk) hx hb hK hP hD hS 1 1 rfl rfl (by have h9 := c_2; rw [ti_le] at h9; exact ti_in hinv (by omega)) d_Model_fill_24 (fun H locs hP hD hS => ?_)
      rw [zupd] at hP hD
      obtain ⟨g_3, eg_3⟩ : ∃ y : Nat → Bool, y = uB g k.toNatClampNeg bk := ⟨_, rfl⟩
      rw [← eg_3] at hP hD
      replace eg_3 := eg_3.symm
      have hP : va_P (dC, dI) classes [(mm, .inr (7, [.ref mwr, .ref mbr, .ref mwb, .ref mbb, .ref mbl, .ref mmo, .int th, .int (nI wd), .ref mli, .ref mab, .ref mou, .int bt, .int (bI cl), .int cd, .int c3.1, .int c3.2.1, .int c3.2.2, .ref mne, .int nx, .int w3.1, .int w3.2.1, .int w3.2.2, .ref mina, .int gv, .ref mrl, .ref mra, .int lns, .int ps, .int st, .int (bI tu)])), (mrl, .inl (cZ, wd, .inl (fun jz => bI (g_3 jz))))] H := hP
      have hD : va_D A [(mm, .inr (7, [.ref mwr, .ref mbr, .ref mwb, .ref mbb, .ref mbl, .ref mmo, .int th, .int (nI wd), .ref mli, .ref mab, .ref mou, .int bt, .int (bI cl), .int cd, .int c3.1, .int c3.2.1, .int c3.2.2, .ref mne, .int nx, .int w3.1, .int w3.2.1, .int w3.2.2, .ref mina, .int gv, .ref mrl, .ref mra, .int lns, .int ps, .int st, .int (bI tu)])), (mrl, .inl (cZ, wd, .inl (fun jz => bI (g_3 jz))))] := hD
      obtain ⟨x_4, ex_4⟩ : ∃ y : Int32, y = k + 1 := ⟨_, rfl⟩
      refine lv_iinc (v := x_4) (lv' := [(4, .int x_4), (0, .ref mm), (1, .int x), (2, .int to), (3, .int (bI bk))]) hx hb d_Model_fill_25 hl (k := 0) rfl (by rw [ex_4]; rfl) (by decide) rfl (fun ls hl => ?_)
      replace ex_4 := ex_4.symm
      refine lv_goto (tgt := 11) hx hb d_Model_fill_28 (by decide) ?_
      have hF9 : f_Model_fill wd rln x to bk = l_Model_fill_11 wd rln x to bk n11 g_3 x_4 := (by subst eg_3 ex_4; exact (hF11.trans ((if_neg c_2).trans (rfl))))
      have hI9 : 0 ≤ Int32.toInt x_4 := (by subst eg_3 ex_4; have h9 := c_2; rw [ti_le] at h9; rw [ti_add (by rw [ti_1]; omega) (by rw [ti_1]; omega), ti_1]; omega)
      have hP9 := hP.sub (ws' := [(mm, .inr (7, [.ref mwr, .ref mbr, .ref mwb, .ref mbb, .ref mbl, .ref mmo, .int th, .int (nI wd), .ref mli, .ref mab, .ref mou, .int bt, .int (bI cl), .int cd, .int c3.1, .int c3.2.1, .int c3.2.2, .ref mne, .int nx, .int w3.1, .int w3.2.1, .int w3.2.2, .ref mina, .int gv, .ref mrl, .ref mra, .int lns, .int ps, .int st, .int (bI tu)])), (mrl, .inl (cZ, wd, .inl (fun jz => bI (g_3 jz))))]) [0, 1] rfl
      have hD9 := hD.sub (ws' := [(mm, .inr (7, [.ref mwr, .ref mbr, .ref mwb, .ref mbb, .ref mbl, .ref mmo, .int th, .int (nI wd), .ref mli, .ref mab, .ref mou, .int bt, .int (bI cl), .int cd, .int c3.1, .int c3.2.1, .int c3.2.2, .ref mne, .int nx, .int w3.1, .int w3.2.1, .int w3.2.2, .ref mina, .int gv, .ref mrl, .ref mra, .int lns, .int ps, .int st, .int (bI tu)])), (mrl, .inl (cZ, wd, .inl (fun jz => bI (g_3 jz))))]) [0, 1] (by decide) rfl
      have hl9 := lv_sub (l' := [(4, .int x_4), (0, .ref mm), (1, .int x), (2, .int to), (3, .int (bI bk))]) hl [0, 1, 2, 3, 4] rfl
      have hm9 : (Int32.toInt to - Int32.toInt x_4).toNat < (Int32.toInt to - Int32.toInt k).toNat := (by subst eg_3 ex_4; exact mu_b c_2)
      exact ih11 (g_3, x_4) _ _ _ ⟨Nat.lt_of_lt_of_le hm9 (Nat.le_of_lt_succ hmu11), hF9, hI9, hP9, hD9, hS, hl9⟩
  · refine lv_iconst (v := 0) hx hb d_Model_fill_4 (by decide) ?_
    refine lv_goto (tgt := 9) hx hb d_Model_fill_5 (by decide) ?_
    refine lv_istore (lv' := [(4, .int 0), (0, .ref mm), (1, .int x), (2, .int to), (3, .int (bI bk))]) hx hb d_Model_fill_9 hl (by decide) rfl (fun ls hl => ?_)
    have hF9 : f_Model_fill wd rln x to bk = l_Model_fill_11 wd rln x to bk ((Int32.toInt to - Int32.toInt (0 : Int32)).toNat + 1) rln (0 : Int32) := (by exact ((if_neg c_1).trans (rfl)))
    have hI9 : 0 ≤ Int32.toInt (0 : Int32) := (by decide)
    have hP9 := hP.sub (ws' := [(mm, .inr (7, [.ref mwr, .ref mbr, .ref mwb, .ref mbb, .ref mbl, .ref mmo, .int th, .int (nI wd), .ref mli, .ref mab, .ref mou, .int bt, .int (bI cl), .int cd, .int c3.1, .int c3.2.1, .int c3.2.2, .ref mne, .int nx, .int w3.1, .int w3.2.1, .int w3.2.2, .ref mina, .int gv, .ref mrl, .ref mra, .int lns, .int ps, .int st, .int (bI tu)])), (mrl, .inl (cZ, wd, .inl (fun jz => bI (rln jz))))]) [0, 1] rfl
    have hD9 := hD.sub (ws' := [(mm, .inr (7, [.ref mwr, .ref mbr, .ref mwb, .ref mbb, .ref mbl, .ref mmo, .int th, .int (nI wd), .ref mli, .ref mab, .ref mou, .int bt, .int (bI cl), .int cd, .int c3.1, .int c3.2.1, .int c3.2.2, .ref mne, .int nx, .int w3.1, .int w3.2.1, .int w3.2.2, .ref mina, .int gv, .ref mrl, .ref mra, .int lns, .int ps, .int st, .int (bI tu)])), (mrl, .inl (cZ, wd, .inl (fun jz => bI (rln jz))))]) [0, 1] (by decide) rfl
    have hl9 := lv_sub (l' := [(4, .int 0), (0, .ref mm), (1, .int x), (2, .int to), (3, .int (bI bk))]) hl [0, 1, 2, 3, 4] rfl
    refine lp_n (pc := 11) (σ := (Nat → Bool) × Int32) (I := fun nQ vQ H locs ls => (Int32.toInt to - Int32.toInt vQ.2).toNat < nQ ∧ f_Model_fill wd rln x to bk = l_Model_fill_11 wd rln x to bk nQ vQ.1 vQ.2 ∧ (0 ≤ Int32.toInt vQ.2) ∧ va_P (dC, dI) classes [(mm, .inr (7, [.ref mwr, .ref mbr, .ref mwb, .ref mbb, .ref mbl, .ref mmo, .int th, .int (nI wd), .ref mli, .ref mab, .ref mou, .int bt, .int (bI cl), .int cd, .int c3.1, .int c3.2.1, .int c3.2.2, .ref mne, .int nx, .int w3.1, .int w3.2.1, .int w3.2.2, .ref mina, .int gv, .ref mrl, .ref mra, .int lns, .int ps, .int st, .int (bI tu)])), (mrl, .inl (cZ, wd, .inl (fun jz => bI (vQ.1 jz))))] H ∧ va_D A [(mm, .inr (7, [.ref mwr, .ref mbr, .ref mwb, .ref mbb, .ref mbl, .ref mmo, .int th, .int (nI wd), .ref mli, .ref mab, .ref mou, .int bt, .int (bI cl), .int cd, .int c3.1, .int c3.2.1, .int c3.2.2, .ref mne, .int nx, .int w3.1, .int w3.2.1, .int w3.2.2, .ref mina, .int gv, .ref mrl, .ref mra, .int lns, .int ps, .int st, .int (bI tu)])), (mrl, .inl (cZ, wd, .inl (fun jz => bI (vQ.1 jz))))] ∧ va_S A s.heap H locs ∧ lv_has ls 5 [(4, .int vQ.2), (0, .ref mm), (1, .int x), (2, .int to), (3, .int (bI bk))]) (fun vQ H locs ls h => absurd h.1 (Nat.not_lt_zero _)) ?_ ((Int32.toInt to - Int32.toInt (0 : Int32)).toNat + 1) (rln, (0 : Int32)) _ _ _ ⟨Nat.lt_succ_self _, hF9, hI9, hP9, hD9, hS, hl9⟩
    intro n11 ih11 vQ H locs ls hI
    obtain ⟨g, k⟩ := vQ
    obtain ⟨hmu11, hF11, hinv, hP, hD, hS, hl⟩ := hI
    have hinv : 0 ≤ Int32.toInt k := hinv
    obtain hj := hinv
    have hmu11 : (Int32.toInt to - Int32.toInt k).toNat < n11 + 1 := hmu11
    have hF11 : f_Model_fill wd rln x to bk = l_Model_fill_11 wd rln x to bk (n11 + 1) g k := hF11
    have hP : va_P (dC, dI) classes [(mm, .inr (7, [.ref mwr, .ref mbr, .ref mwb, .ref mbb, .ref mbl, .ref mmo, .int th, .int (nI wd), .ref mli, .ref mab, .ref mou, .int bt, .int (bI cl), .int cd, .int c3.1, .int c3.2.1, .int c3.2.2, .ref mne, .int nx, .int w3.1, .int w3.2.1, .int w3.2.2, .ref mina, .int gv, .ref mrl, .ref mra, .int lns, .int ps, .int st, .int (bI tu)])), (mrl, .inl (cZ, wd, .inl (fun jz => bI (g jz))))] H := hP
    have hD : va_D A [(mm, .inr (7, [.ref mwr, .ref mbr, .ref mwb, .ref mbb, .ref mbl, .ref mmo, .int th, .int (nI wd), .ref mli, .ref mab, .ref mou, .int bt, .int (bI cl), .int cd, .int c3.1, .int c3.2.1, .int c3.2.2, .ref mne, .int nx, .int w3.1, .int w3.2.1, .int w3.2.2, .ref mina, .int gv, .ref mrl, .ref mra, .int lns, .int ps, .int st, .int (bI tu)])), (mrl, .inl (cZ, wd, .inl (fun jz => bI (g jz))))] := hD
    have hl : lv_has ls 5 [(4, .int k), (0, .ref mm), (1, .int x), (2, .int to), (3, .int (bI bk))] := hl
    refine lv_iload hx hb d_Model_fill_11 (lv_at hl 0 rfl) ?_
    refine lv_iload_n hx hb d_Model_fill_13 rfl (lv_at hl 3 rfl) ?_
    refine lv_icmp_ge (tgt := 31) hx hb d_Model_fill_14 (by decide) (fun c_5 => ?_) (fun c_5 => ?_)
    · have hP9 := hP.sub (ws' := [(mm, .inr (7, [.ref mwr, .ref mbr, .ref mwb, .ref mbb, .ref mbl, .ref mmo, .int th, .int (nI wd), .ref mli, .ref mab, .ref mou, .int bt, .int (bI cl), .int cd, .int c3.1, .int c3.2.1, .int c3.2.2, .ref mne, .int nx, .int w3.1, .int w3.2.1, .int w3.2.2, .ref mina, .int gv, .ref mrl, .ref mra, .int lns, .int ps, .int st, .int (bI tu)])), (mrl, .inl (cZ, wd, .inl (fun jz => bI (g jz))))]) [0, 1] rfl
      have hD9 := hD.sub (ws' := [(mm, .inr (7, [.ref mwr, .ref mbr, .ref mwb, .ref mbb, .ref mbl, .ref mmo, .int th, .int (nI wd), .ref mli, .ref mab, .ref mou, .int bt, .int (bI cl), .int cd, .int c3.1, .int c3.2.1, .int c3.2.2, .ref mne, .int nx, .int w3.1, .int w3.2.1, .int w3.2.2, .ref mina, .int gv, .ref mrl, .ref mra, .int lns, .int ps, .int st, .int (bI tu)])), (mrl, .inl (cZ, wd, .inl (fun jz => bI (g jz))))]) [0, 1] (by decide) rfl
      have hK9 := hK
      exact W.vret hx hb hr (fun t ht hW => ⟨⟨g, rfl, (by have h9 : f_Model_fill wd rln x to bk = g := (by exact (hF11.trans ((if_pos c_5).trans (rfl)))); exact h9.symm), ⟨by rw [ht]; exact hP9, va_K.moved hW.alike hK9, hD9⟩⟩, hS.F ht⟩) hS.2.2 d_Model_fill_31
    · refine lv_aload_n hx hb d_Model_fill_17 rfl (lv_at hl 1 rfl) ?_
      refine va_get (D := (dC, dI)) (ci := 7) (v := .ref mrl) (C := R_Model) (T := F_Model) (N := 30) hx hb hw i_Model hown hK hP 0 rfl rfl 24 (by decide) (hw _ m_688) (fun _ h9 => h9) rfl d_Model_fill_18 ?_
      refine lv_iload hx hb d_Model_fill_21 (lv_at hl 0 rfl) ?_
      refine lv_iload_n hx hb d_Model_fill_23 rfl (lv_at hl 4 rfl) ?_
      refine va_zast (x := bI bk) hx hb hK hP hD hS 1 1 rfl rfl (by have h9 := c_5; rw [ti_le] at h9; exact ti_in hinv (by omega)) d_Model_fill_24 (fun H locs hP hD hS => ?_)
      rw [zupd] at hP hD
      obtain ⟨g_6, eg_6⟩ : ∃ y : Nat → Bool, y = uB g k.toNatClampNeg bk := ⟨_, rfl⟩
      rw [← eg_6] at hP hD
      replace eg_6 := eg_6.symm
      have hP : va_P (dC, dI) classes [(mm, .inr (7, [.ref mwr, .ref mbr, .ref mwb, .ref mbb, .ref mbl, .ref mmo, .int th, .int (nI wd), .ref mli, .ref mab, .ref mou, .int bt, .int (bI cl), .int cd, .int c3.1, .int c3.2.1, .int c3.2.2, .ref mne, .int nx, .int w3.1, .int w3.2.1, .int w3.2.2, .ref mina, .int gv, .ref mrl, .ref mra, .int lns, .int ps, .int st, .int (bI tu)])), (mrl, .inl (cZ, wd, .inl (fun jz => bI (g_6 jz))))] H := hP
      have hD : va_D A [(mm, .inr (7, [.ref mwr, .ref mbr, .ref mwb, .ref mbb, .ref mbl, .ref mmo, .int th, .int (nI wd), .ref mli, .ref mab, .ref mou, .int bt, .int (bI cl), .int cd, .int c3.1, .int c3.2.1, .int c3.2.2, .ref mne, .int nx, .int w3.1, .int w3.2.1, .int w3.2.2, .ref mina, .int gv, .ref mrl, .ref mra, .int lns, .int ps, .int st, .int (bI tu)])), (mrl, .inl (cZ, wd, .inl (fun jz => bI (g_6 jz))))] := hD
      obtain ⟨x_7, ex_7⟩ : ∃ y : Int32, y = k + 1 := ⟨_, rfl⟩
      refine lv_iinc (v := x_7) (lv' := [(4, .int x_7), (0, .ref mm), (1, .int x), (2, .int to), (3, .int (bI bk))]) hx hb d_Model_fill_25 hl (k := 0) rfl (by rw [ex_7]; rfl) (by decide) rfl (fun ls hl => ?_)
      replace ex_7 := ex_7.symm
      refine lv_goto (tgt := 11) hx hb d_Model_fill_28 (by decide) ?_
      have hF9 : f_Model_fill wd rln x to bk = l_Model_fill_11 wd rln x to bk n11 g_6 x_7 := (by subst eg_6 ex_7; exact (hF11.trans ((if_neg c_5).trans (rfl))))
      have hI9 : 0 ≤ Int32.toInt x_7 := (by subst eg_6 ex_7; have h9 := c_5; rw [ti_le] at h9; rw [ti_add (by rw [ti_1]; omega) (by rw [ti_1]; omega), ti_1]; omega)
      have hP9 := hP.sub (ws' := [(mm, .inr (7, [.ref mwr, .ref mbr, .ref mwb, .ref mbb, .ref mbl, .ref mmo, .int th, .int (nI wd), .ref mli, .ref mab, .ref mou, .int bt, .int (bI cl), .int cd, .int c3.1, .int c3.2.1, .int c3.2.2, .ref mne, .int nx, .int w3.1, .int w3.2.1, .int w3.2.2, .ref mina, .int gv, .ref mrl, .ref mra, .int lns, .int ps, .int st, .int (bI tu)])), (mrl, .inl (cZ, wd, .inl (fun jz => bI (g_6 jz))))]) [0, 1] rfl
      have hD9 := hD.sub (ws' := [(mm, .inr (7, [.ref mwr, .ref mbr, .ref mwb, .ref mbb, .ref mbl, .ref mmo, .int th, .int (nI wd), .ref mli, .ref mab, .ref mou, .int bt, .int (bI cl), .int cd, .int c3.1, .int c3.2.1, .int c3.2.2, .ref mne, .int nx, .int w3.1, .int w3.2.1, .int w3.2.2, .ref mina, .int gv, .ref mrl, .ref mra, .int lns, .int ps, .int st, .int (bI tu)])), (mrl, .inl (cZ, wd, .inl (fun jz => bI (g_6 jz))))]) [0, 1] (by decide) rfl
      have hl9 := lv_sub (l' := [(4, .int x_7), (0, .ref mm), (1, .int x), (2, .int to), (3, .int (bI bk))]) hl [0, 1, 2, 3, 4] rfl
      have hm9 : (Int32.toInt to - Int32.toInt x_7).toNat < (Int32.toInt to - Int32.toInt k).toNat := (by subst eg_6 ex_7; exact mu_b c_5)
      exact ih11 (g_6, x_7) _ _ _ ⟨Nat.lt_of_lt_of_le hm9 (Nat.le_of_lt_succ hmu11), hF9, hI9, hP9, hD9, hS, hl9⟩
def f_Model_bit (inp : Nat → Int32) (x : Int32) : Int32 := ((inp (x / 8).toNatClampNeg) >>> ((7 - (x - x / 8 * 8)) &&& 31)) &&& 1
set_option maxHeartbeats 4000000 in
set_option maxRecDepth 100000 in
theorem c_Model_bit (l : Launch) (dC : Nat → ClassId) (dI : Nat → Nat → Nat) (cI cZ : ClassId) (mm : Nat) (mwr : Nat) (mbr : Nat) (mwb : Nat) (mbb : Nat) (mbl : Nat) (mmo : Nat) (mli : Nat) (mab : Nat) (mou : Nat) (mne : Nat) (mina : Nat) (mrl : Nat) (mra : Nat) (wd : Nat) (th : Int32) (bt : Int32) (cl : Bool) (cd : Int32) (c3 : Int32 × Int32 × Int32) (nx : Int32) (w3 : Int32 × Int32 × Int32) (gv : Int32) (lns : Int32) (ps : Int32) (st : Int32) (tu : Bool) (inp : Nat → Int32) (sz : Nat)  (x : Int32) (hwd : wd ≤ 10000) (hxk : 0 ≤ x.toInt ∧ x.toInt < 524288) : Met l y_Model_bit w_Model_bit ({ frames := 0, cells := 0, slots := 0, locals := 0 }) (va_Pc [.ref mm, .int x] (fun U => U.heap.size = sz ∧ va_P (dC, dI) classes [(mm, .inr (7, [.ref mwr, .ref mbr, .ref mwb, .ref mbb, .ref mbl, .ref mmo, .int th, .int (nI wd), .ref mli, .ref mab, .ref mou, .int bt, .int (bI cl), .int cd, .int c3.1, .int c3.2.1, .int c3.2.2, .ref mne, .int nx, .int w3.1, .int w3.2.1, .int w3.2.2, .ref mina, .int gv, .ref mrl, .ref mra, .int lns, .int ps, .int st, .int (bI tu)])), (mina, .inl (cI, 65536, .inl inp))] U.heap ∧ va_K (dC, dI) classes [(cI, .int), (cZ, .boolean)] U ∧ va_D (fun _ => True) [(mm, .inr (7, [.ref mwr, .ref mbr, .ref mwb, .ref mbb, .ref mbl, .ref mmo, .int th, .int (nI wd), .ref mli, .ref mab, .ref mou, .int bt, .int (bI cl), .int cd, .int c3.1, .int c3.2.1, .int c3.2.2, .ref mne, .int nx, .int w3.1, .int w3.2.1, .int w3.2.2, .ref mina, .int gv, .ref mrl, .ref mra, .int lns, .int ps, .int st, .int (bI tu)])), (mina, .inl (cI, 65536, .inl inp))])) (va_Qi (fun (r : Int32) (u : Unit) => r = f_Model_bit inp x) (fun (u : Unit) (t : State) => va_P (dC, dI) classes [(mm, .inr (7, [.ref mwr, .ref mbr, .ref mwb, .ref mbb, .ref mbl, .ref mmo, .int th, .int (nI wd), .ref mli, .ref mab, .ref mou, .int bt, .int (bI cl), .int cd, .int c3.1, .int c3.2.1, .int c3.2.2, .ref mne, .int nx, .int w3.1, .int w3.2.1, .int w3.2.2, .ref mina, .int gv, .ref mrl, .ref mra, .int lns, .int ps, .int st, .int (bI tu)])), (mina, .inl (cI, 65536, .inl inp))] t.heap ∧ va_K (dC, dI) classes [(cI, .int), (cZ, .boolean)] t ∧ va_D (va_A [(mm, .inr (7, [.ref mwr, .ref mbr, .ref mwb, .ref mbb, .ref mbl, .ref mmo, .int th, .int (nI wd), .ref mli, .ref mab, .ref mou, .int bt, .int (bI cl), .int cd, .int c3.1, .int c3.2.1, .int c3.2.2, .ref mne, .int nx, .int w3.1, .int w3.2.1, .int w3.2.2, .ref mina, .int gv, .ref mrl, .ref mra, .int lns, .int ps, .int st, .int (bI tu)])), (mina, .inl (cI, 65536, .inl inp))] sz) [(mm, .inr (7, [.ref mwr, .ref mbr, .ref mwb, .ref mbb, .ref mbl, .ref mmo, .int th, .int (nI wd), .ref mli, .ref mab, .ref mou, .int bt, .int (bI cl), .int cd, .int c3.1, .int c3.2.1, .int c3.2.2, .ref mne, .int nx, .int w3.1, .int w3.2.1, .int w3.2.2, .ref mina, .int gv, .ref mrl, .ref mra, .int lns, .int ps, .int st, .int (bI tu)])), (mina, .inl (cI, 65536, .inl inp))]) (va_A [(mm, .inr (7, [.ref mwr, .ref mbr, .ref mwb, .ref mbb, .ref mbl, .ref mmo, .int th, .int (nI wd), .ref mli, .ref mab, .ref mou, .int bt, .int (bI cl), .int cd, .int c3.1, .int c3.2.1, .int c3.2.2, .ref mne, .int nx, .int w3.1, .int w3.2.1, .int w3.2.2, .ref mina, .int gv, .ref mrl, .ref mra, .int lns, .int ps, .int st, .int (bI tu)])), (mina, .inl (cI, 65536, .inl inp))] sz)) 0 0 (va_A [(mm, .inr (7, [.ref mwr, .ref mbr, .ref mwb, .ref mbb, .ref mbl, .ref mmo, .int th, .int (nI wd), .ref mli, .ref mab, .ref mou, .int bt, .int (bI cl), .int cd, .int c3.1, .int c3.2.1, .int c3.2.2, .ref mne, .int nx, .int w3.1, .int w3.2.1, .int w3.2.2, .ref mina, .int gv, .ref mrl, .ref mra, .int lns, .int ps, .int st, .int (bI tu)])), (mina, .inl (cI, 65536, .inl inp))] sz) := by
  refine Met.ofW (cc := b_Model_bit) (maxL := 2) (ret := (some .int)) (by decide) rfl ?_
  intro p e s m args below meth c s₁ B hml hv
  obtain ⟨rfl, hsz, hP, hK, hD0⟩ := hv
  have hx := B.exec
  have hb := B.bytes
  have hr := B.returns
  have hts := atoms_spec (ws := w_Model_bit) B.pre
  have hw : ∀ w ∈ WA, w.before _ s = true := fun w h => hts w (List.mem_cons_of_mem _ h)
  have hown : s.vm.findClass R_Model = some m.cls := findClass_of_methodNamed B.named
  have hlocks := B.notSynchronized
  subst hsz
  have hD := hD0.self (sz := s.heap.size)
  generalize hAe : va_A [(mm, .inr (7, [.ref mwr, .ref mbr, .ref mwb, .ref mbb, .ref mbl, .ref mmo, .int th, .int (nI wd), .ref mli, .ref mab, .ref mou, .int bt, .int (bI cl), .int cd, .int c3.1, .int c3.2.1, .int c3.2.2, .ref mne, .int nx, .int w3.1, .int w3.2.1, .int w3.2.2, .ref mina, .int gv, .ref mrl, .ref mra, .int lns, .int ps, .int st, .int (bI tu)])), (mina, .inl (cI, 65536, .inl inp))] s.heap.size = A at hD ⊢
  have hA : ∀ q : Nat, s.heap.size ≤ q → A q := fun q h => by rw [← hAe]; exact Or.inr h
  have hS : va_S A s.heap s.heap [] := va_S.rf
  have hP : va_P (dC, dI) classes [(mm, .inr (7, [.ref mwr, .ref mbr, .ref mwb, .ref mbb, .ref mbl, .ref mmo, .int th, .int (nI wd), .ref mli, .ref mab, .ref mou, .int bt, .int (bI cl), .int cd, .int c3.1, .int c3.2.1, .int c3.2.2, .ref mne, .int nx, .int w3.1, .int w3.2.1, .int w3.2.2, .ref mina, .int gv, .ref mrl, .ref mra, .int lns, .int ps, .int st, .int (bI tu)])), (mina, .inl (cI, 65536, .inl inp))] s.heap := hP
  have hl := lv_entry ([.ref mm, .int x]) (n := 2) (Nat.le_of_ble_eq_true rfl)
  rw [lg_entry_eq]
  generalize (lg_sl ([.ref mm, .int x]) ++ List.replicate (2 - (lg_sl ([.ref mm, .int x])).length) Slot.unset).toArray = ls at hl ⊢
  have hl : lv_has ls 2 [(0, .ref mm), (1, .int x)] := hl
  refine lv_aload_n hx hb d_Model_bit_0 rfl (lv_at hl 0 rfl) ?_
  refine va_get (D := (dC, dI)) (ci := 7) (v := .ref mina) (C := R_Model) (T := F_Model) (N := 30) hx hb hw i_Model hown hK hP 0 rfl rfl 22 (by decide) (hw _ m_686) (fun _ h9 => h9) rfl d_Model_bit_1 ?_
  refine lv_iload_n hx hb d_Model_bit_4 rfl (lv_at hl 1 rfl) ?_
  refine lv_bipush (v := 8) hx hb d_Model_bit_5 (by decide) ?_
  refine lv_idiv hx hb d_Model_bit_7 (by decide) ?_
  refine va_iald hx hb hK hP 1 0 rfl rfl (ix_bit hxk) d_Model_bit_8 ?_
  refine lv_bipush (v := 7) hx hb d_Model_bit_9 (by decide) ?_
  refine lv_iload_n hx hb d_Model_bit_11 rfl (lv_at hl 1 rfl) ?_
  refine lv_bipush (v := 8) hx hb d_Model_bit_12 (by decide) ?_
  refine lv_irem hx hb d_Model_bit_14 (by decide) ?_
  refine lv_isub hx hb d_Model_bit_15 ?_
  refine lv_ishr hx hb d_Model_bit_16 ?_
  refine lv_iconst (v := 1) hx hb d_Model_bit_17 (by decide) ?_
  refine lv_iand hx hb d_Model_bit_18 ?_
  have hP9 := hP.sub (ws' := [(mm, .inr (7, [.ref mwr, .ref mbr, .ref mwb, .ref mbb, .ref mbl, .ref mmo, .int th, .int (nI wd), .ref mli, .ref mab, .ref mou, .int bt, .int (bI cl), .int cd, .int c3.1, .int c3.2.1, .int c3.2.2, .ref mne, .int nx, .int w3.1, .int w3.2.1, .int w3.2.2, .ref mina, .int gv, .ref mrl, .ref mra, .int lns, .int ps, .int st, .int (bI tu)])), (mina, .inl (cI, 65536, .inl inp))]) [0, 1] rfl
  have hD9 := hD.sub (ws' := [(mm, .inr (7, [.ref mwr, .ref mbr, .ref mwb, .ref mbb, .ref mbl, .ref mmo, .int th, .int (nI wd), .ref mli, .ref mab, .ref mou, .int bt, .int (bI cl), .int cd, .int c3.1, .int c3.2.1, .int c3.2.2, .ref mne, .int nx, .int w3.1, .int w3.2.1, .int w3.2.2, .ref mina, .int gv, .ref mrl, .ref mra, .int lns, .int ps, .int st, .int (bI tu)])), (mina, .inl (cI, 65536, .inl inp))]) [0, 1] (by decide) rfl
  have hK9 := hK
  exact W.iret (v := ((inp (x / 8).toNatClampNeg) >>> ((7 - (x - x / 8 * 8)) &&& 31)) &&& 1) hx hb hr (fun t ht hW => ⟨⟨((inp (x / 8).toNatClampNeg) >>> ((7 - (x - x / 8 * 8)) &&& 31)) &&& 1, (), rfl, (by have h9 : f_Model_bit inp x = ((inp (x / 8).toNatClampNeg) >>> ((7 - (x - x / 8 * 8)) &&& 31)) &&& 1 := (by exact (rfl)); exact h9.symm), ⟨by rw [ht]; exact hP9, va_K.moved hW.alike hK9, hD9⟩⟩, hS.F ht⟩) hS.2.2 d_Model_bit_19
def l_Model_placeOf_5 (of : Nat → Int32) (my : Int32) (x : Int32) : Nat → Int32 → Int32 → Int32
  | 0, _, _ => default
  | n5 + 1, y, k => if my ≤ k then (y) else (if (of k.toNatClampNeg) = x then (let x_4 := k + 1; l_Model_placeOf_5 of my x n5 k x_4) else (let x_3 := k + 1; l_Model_placeOf_5 of my x n5 y x_3))
def f_Model_placeOf (of : Nat → Int32) (my : Int32) (x : Int32) : Int32 := l_Model_placeOf_5 of my x ((Int32.toInt my - Int32.toInt (0 : Int32)).toNat + 1) ((-1) : Int32) (0 : Int32)
set_option maxHeartbeats 4000000 in
set_option maxRecDepth 100000 in
theorem c_Model_placeOf (l : Launch) (dC : Nat → ClassId) (dI : Nat → Nat → Nat) (cI cZ : ClassId) (oa : Nat) (on : Nat) (of : Nat → Int32) (sz : Nat)  (my : Int32) (x : Int32) (hon : on < 1000 ∧ my.toInt ≤ on) : Met l y_Model_placeOf w_Model_placeOf ({ frames := 0, cells := 0, slots := 0, locals := 0 }) (va_Pc [.ref oa, .int my, .int x] (fun U => U.heap.size = sz ∧ va_P (dC, dI) classes [(oa, .inl (cI, on, .inl of))] U.heap ∧ va_K (dC, dI) classes [(cI, .int), (cZ, .boolean)] U ∧ va_D (fun _ => True) [(oa, .inl (cI, on, .inl of))])) (va_Qi (fun (r : Int32) (u : Unit) => r = f_Model_placeOf of my x) (fun (u : Unit) (t : State) => va_P (dC, dI) classes [(oa, .inl (cI, on, .inl of))] t.heap ∧ va_K (dC, dI) classes [(cI, .int), (cZ, .boolean)] t ∧ va_D (va_A [(oa, .inl (cI, on, .inl of))] sz) [(oa, .inl (cI, on, .inl of))]) (va_A [(oa, .inl (cI, on, .inl of))] sz)) 0 0 (va_A [(oa, .inl (cI, on, .inl of))] sz) := by
  refine Met.ofW (cc := b_Model_placeOf) (maxL := 5) (ret := (some .int)) (by decide) rfl ?_
  intro p e s m args below meth c s₁ B hml hv
  obtain ⟨rfl, hsz, hP, hK, hD0⟩ := hv
  have hx := B.exec
  have hb := B.bytes
  have hr := B.returns
  have hts := atoms_spec (ws := w_Model_placeOf) B.pre
  have hw : ∀ w ∈ WA, w.before _ s = true := fun w h => hts w (List.mem_cons_of_mem _ h)
  have hown : s.vm.findClass R_Model = some m.cls := findClass_of_methodNamed B.named
  have hlocks := B.notSynchronized
  subst hsz
  have hD := hD0.self (sz := s.heap.size)
  generalize hAe : va_A [(oa, .inl (cI, on, .inl of))] s.heap.size = A at hD ⊢
  have hA : ∀ q : Nat, s.heap.size ≤ q → A q := fun q h => by rw [← hAe]; exact Or.inr h
  have hS : va_S A s.heap s.heap [] := va_S.rf
  have hP : va_P (dC, dI) classes [(oa, .inl (cI, on, .inl of))] s.heap := hP
  have hl := lv_entry ([.ref oa, .int my, .int x]) (n := 5) (Nat.le_of_ble_eq_true rfl)
  rw [lg_entry_eq]
  generalize (lg_sl ([.ref oa, .int my, .int x]) ++ List.replicate (5 - (lg_sl ([.ref oa, .int my, .int x])).length) Slot.unset).toArray = ls at hl ⊢
  have hl : lv_has ls 5 [(0, .ref oa), (1, .int my), (2, .int x)] := hl
  refine lv_iconst (v := (-1)) hx hb d_Model_placeOf_0 (by decide) ?_
  refine lv_istore_n (lv' := [(3, .int (-1)), (0, .ref oa), (1, .int my), (2, .int x)]) hx hb d_Model_placeOf_1 rfl hl (by decide) rfl (fun ls hl => ?_)
  refine lv_iconst (v := 0) hx hb d_Model_placeOf_2 (by decide) ?_
  refine lv_istore (lv' := [(4, .int 0), (3, .int (-1)), (0, .ref oa), (1, .int my), (2, .int x)]) hx hb d_Model_placeOf_3 hl (by decide) rfl (fun ls hl => ?_)
  have hF9 : f_Model_placeOf of my x = l_Model_placeOf_5 of my x ((Int32.toInt my - Int32.toInt (0 : Int32)).toNat + 1) ((-1) : Int32) (0 : Int32) := (by exact (rfl))
  have hI9 : 0 ≤ Int32.toInt (0 : Int32) := (by decide)
  have hP9 := hP.sub (ws' := [(oa, .inl (cI, on, .inl of))]) [0] rfl
  have hD9 := hD.sub (ws' := [(oa, .inl (cI, on, .inl of))]) [0] (by decide) rfl
  have hl9 := lv_sub (l' := [(4, .int 0), (3, .int (-1)), (0, .ref oa), (1, .int my), (2, .int x)]) hl [0, 1, 2, 3, 4] rfl
  refine lp_n (pc := 5) (σ := Int32 × Int32) (I := fun nQ vQ H locs ls => (Int32.toInt my - Int32.toInt vQ.2).toNat < nQ ∧ f_Model_placeOf of my x = l_Model_placeOf_5 of my x nQ vQ.1 vQ.2 ∧ (0 ≤ Int32.toInt vQ.2) ∧ va_P (dC, dI) classes [(oa, .inl (cI, on, .inl of))] H ∧ va_D A [(oa, .inl (cI, on, .inl of))] ∧ va_S A s.heap H locs ∧ lv_has ls 5 [(4, .int vQ.2), (3, .int vQ.1), (0, .ref oa), (1, .int my), (2, .int x)]) (fun vQ H locs ls h => absurd h.1 (Nat.not_lt_zero _)) ?_ ((Int32.toInt my - Int32.toInt (0 : Int32)).toNat + 1) (((-1) : Int32), (0 : Int32)) _ _ _ ⟨Nat.lt_succ_self _, hF9, hI9, hP9, hD9, hS, hl9⟩
  intro n5 ih5 vQ H locs ls hI
  obtain ⟨y, k⟩ := vQ
  obtain ⟨hmu5, hF5, hinv, hP, hD, hS, hl⟩ := hI
  have hinv : 0 ≤ Int32.toInt k := hinv
  obtain hj := hinv
  have hmu5 : (Int32.toInt my - Int32.toInt k).toNat < n5 + 1 := hmu5
  have hF5 : f_Model_placeOf of my x = l_Model_placeOf_5 of my x (n5 + 1) y k := hF5
  have hP : va_P (dC, dI) classes [(oa, .inl (cI, on, .inl of))] H := hP
  have hD : va_D A [(oa, .inl (cI, on, .inl of))] := hD
  have hl : lv_has ls 5 [(4, .int k), (3, .int y), (0, .ref oa), (1, .int my), (2, .int x)] := hl
  refine lv_iload hx hb d_Model_placeOf_5 (lv_at hl 0 rfl) ?_
  refine lv_iload_n hx hb d_Model_placeOf_7 rfl (lv_at hl 3 rfl) ?_
  refine lv_icmp_ge (tgt := 32) hx hb d_Model_placeOf_8 (by decide) (fun c_1 => ?_) (fun c_1 => ?_)
  · refine lv_iload_n hx hb d_Model_placeOf_32 rfl (lv_at hl 1 rfl) ?_
    have hP9 := hP.sub (ws' := [(oa, .inl (cI, on, .inl of))]) [0] rfl
    have hD9 := hD.sub (ws' := [(oa, .inl (cI, on, .inl of))]) [0] (by decide) rfl
    have hK9 := hK
    exact W.iret (v := y) hx hb hr (fun t ht hW => ⟨⟨y, (), rfl, (by have h9 : f_Model_placeOf of my x = y := (by exact (hF5.trans ((if_pos c_1).trans (rfl)))); exact h9.symm), ⟨by rw [ht]; exact hP9, va_K.moved hW.alike hK9, hD9⟩⟩, hS.F ht⟩) hS.2.2 d_Model_placeOf_33
  · refine lv_aload_n hx hb d_Model_placeOf_11 rfl (lv_at hl 2 rfl) ?_
    refine lv_iload hx hb d_Model_placeOf_12 (lv_at hl 0 rfl) ?_
    refine va_iald hx hb hK hP 0 0 rfl rfl (by have h9 := c_1; rw [ti_le] at h9; exact ti_in (by omega) (by omega)) d_Model_placeOf_14 ?_
    refine lv_iload_n hx hb d_Model_placeOf_15 rfl (lv_at hl 4 rfl) ?_
    refine lv_icmp_ne (tgt := 24) hx hb d_Model_placeOf_16 (by decide) (fun c_2 => ?_) (fun c_2 => ?_)
    · refine lv_iload_n hx hb d_Model_placeOf_24 rfl (lv_at hl 1 rfl) ?_
      refine lv_istore_n (lv' := [(3, .int y), (4, .int k), (0, .ref oa), (1, .int my), (2, .int x)]) hx hb d_Model_placeOf_25 rfl hl (by decide) rfl (fun ls hl => ?_)
      obtain ⟨x_3, ex_3⟩ : ∃ y : Int32, y = k + 1 := ⟨_, rfl⟩
      refine lv_iinc (v := x_3) (lv' := [(4, .int x_3), (3, .int y), (0, .ref oa), (1, .int my), (2, .int x)]) hx hb d_Model_placeOf_26 hl (k := 1) rfl (by rw [ex_3]; rfl) (by decide) rfl (fun ls hl => ?_)
      replace ex_3 := ex_3.symm
      refine lv_goto (tgt := 5) hx hb d_Model_placeOf_29 (by decide) ?_
      have hF9 : f_Model_placeOf of my x = l_Model_placeOf_5 of my x n5 y x_3 := (by subst ex_3; exact (hF5.trans ((if_neg c_1).trans ((if_neg c_2).trans (rfl)))))
      have hI9 : 0 ≤ Int32.toInt x_3 := (by subst ex_3; have h9 := c_1; rw [ti_le] at h9; rw [ti_add (by rw [ti_1]; omega) (by rw [ti_1]; omega), ti_1]; omega)
      have hP9 := hP.sub (ws' := [(oa, .inl (cI, on, .inl of))]) [0] rfl
      have hD9 := hD.sub (ws' := [(oa, .inl (cI, on, .inl of))]) [0] (by decide) rfl
      have hl9 := lv_sub (l' := [(4, .int x_3), (3, .int y), (0, .ref oa), (1, .int my), (2, .int x)]) hl [0, 1, 2, 3, 4] rfl
      have hm9 : (Int32.toInt my - Int32.toInt x_3).toNat < (Int32.toInt my - Int32.toInt k).toNat := (by subst ex_3; exact mu_b c_1)
      exact ih5 (y, x_3) _ _ _ ⟨Nat.lt_of_lt_of_le hm9 (Nat.le_of_lt_succ hmu5), hF9, hI9, hP9, hD9, hS, hl9⟩
    · refine lv_iload hx hb d_Model_placeOf_19 (lv_at hl 0 rfl) ?_
      refine lv_goto (tgt := 25) hx hb d_Model_placeOf_21 (by decide) ?_
      refine lv_istore_n (lv' := [(3, .int k), (4, .int k), (0, .ref oa), (1, .int my), (2, .int x)]) hx hb d_Model_placeOf_25 rfl hl (by decide) rfl (fun ls hl => ?_)
      obtain ⟨x_4, ex_4⟩ : ∃ y : Int32, y = k + 1 := ⟨_, rfl⟩
      refine lv_iinc (v := x_4) (lv' := [(4, .int x_4), (3, .int k), (0, .ref oa), (1, .int my), (2, .int x)]) hx hb d_Model_placeOf_26 hl (k := 1) rfl (by rw [ex_4]; rfl) (by decide) rfl (fun ls hl => ?_)
      replace ex_4 := ex_4.symm
      refine lv_goto (tgt := 5) hx hb d_Model_placeOf_29 (by decide) ?_
      have hF9 : f_Model_placeOf of my x = l_Model_placeOf_5 of my x n5 k x_4 := (by subst ex_4; exact (hF5.trans ((if_neg c_1).trans ((if_pos c_2).trans (rfl)))))
      have hI9 : 0 ≤ Int32.toInt x_4 := (by subst ex_4; have h9 := c_1; rw [ti_le] at h9; rw [ti_add (by rw [ti_1]; omega) (by rw [ti_1]; omega), ti_1]; omega)
      have hP9 := hP.sub (ws' := [(oa, .inl (cI, on, .inl of))]) [0] rfl
      have hD9 := hD.sub (ws' := [(oa, .inl (cI, on, .inl of))]) [0] (by decide) rfl
      have hl9 := lv_sub (l' := [(4, .int x_4), (3, .int k), (0, .ref oa), (1, .int my), (2, .int x)]) hl [0, 1, 2, 3, 4] rfl
      have hm9 : (Int32.toInt my - Int32.toInt x_4).toNat < (Int32.toInt my - Int32.toInt k).toNat := (by subst ex_4; exact mu_b c_1)
      exact ih5 (k, x_4) _ _ _ ⟨Nat.lt_of_lt_of_le hm9 (Nat.le_of_lt_succ hmu5), hF9, hI9, hP9, hD9, hS, hl9⟩
