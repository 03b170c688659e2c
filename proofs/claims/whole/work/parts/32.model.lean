def l_Model_give_34 (th : Int32) (gv : Int32) (inp : Nat → Int32) (x : Int64) (n : Int32) : Nat → Int32 → (Nat → Int32) → Int32 → Int32 × (Int32 × Int32 × (Nat → Int32))
  | 0, _, _, _ => default
  | n34 + 1, b, g, k => if k < 0 then ((1, (0, b, g))) else (let x_6 := ((x >>> ((8 * k).toInt64 &&& 63)) &&& 255).toInt32; let g_7 := upd g b.toNatClampNeg x_6; let x_8 := b + 1; let x_9 := k + (-1); l_Model_give_34 th gv inp x n n34 x_8 g_7 x_9)
def f_Model_give (th : Int32) (gv : Int32) (inp : Nat → Int32) (x : Int64) (n : Int32) : Int32 × (Int32 × Int32 × (Nat → Int32)) := if n < 1 then ((0, (0, gv, inp))) else (if 8 < n then ((0, (0, gv, inp))) else (if (gv + n) ≤ 65536 then (let x_4 := n - 1; l_Model_give_34 th gv inp x n ((Int32.toInt x_4 + 1).toNat + 1) gv inp x_4) else ((0, (0, gv, inp)))))
set_option maxHeartbeats 4000000 in
set_option maxRecDepth 100000 in
theorem c_Model_give (l : Launch) (dC : Nat → ClassId) (dI : Nat → Nat → Nat) (cI cZ : ClassId) (mm : Nat) (mwr : Nat) (mbr : Nat) (mwb : Nat) (mbb : Nat) (mbl : Nat) (mmo : Nat) (mli : Nat) (mab : Nat) (mou : Nat) (mne : Nat) (mina : Nat) (mrl : Nat) (mra : Nat) (wd : Nat) (bt : Int32) (cl : Bool) (cd : Int32) (c3 : Int32 × Int32 × Int32) (nx : Int32) (w3 : Int32 × Int32 × Int32) (lns : Int32) (ps : Int32) (st : Int32) (tu : Bool) (sz : Nat) (th : Int32) (gv : Int32) (inp : Nat → Int32) (x : Int64) (n : Int32) (hwd : wd ≤ 10000) (hgv : 0 ≤ gv.toInt ∧ gv.toInt ≤ 65536) : Met l y_Model_give w_Model_give ({ frames := 0, cells := 0, slots := 0, locals := 0 }) (va_Pc [.ref mm, .long x, .int n] (fun U => U.heap.size = sz ∧ va_P (dC, dI) classes [(mm, .inr (7, [.ref mwr, .ref mbr, .ref mwb, .ref mbb, .ref mbl, .ref mmo, .int th, .int (nI wd), .ref mli, .ref mab, .ref mou, .int bt, .int (bI cl), .int cd, .int c3.1, .int c3.2.1, .int c3.2.2, .ref mne, .int nx, .int w3.1, .int w3.2.1, .int w3.2.2, .ref mina, .int gv, .ref mrl, .ref mra, .int lns, .int ps, .int st, .int (bI tu)])), (mina, .inl (cI, 65536, .inl inp))] U.heap ∧ va_K (dC, dI) classes [(cI, .int), (cZ, .boolean)] U ∧ va_D (fun _ => True) [(mm, .inr (7, [.ref mwr, .ref mbr, .ref mwb, .ref mbb, .ref mbl, .ref mmo, .int th, .int (nI wd), .ref mli, .ref mab, .ref mou, .int bt, .int (bI cl), .int cd, .int c3.1, .int c3.2.1, .int c3.2.2, .ref mne, .int nx, .int w3.1, .int w3.2.1, .int w3.2.2, .ref mina, .int gv, .ref mrl, .ref mra, .int lns, .int ps, .int st, .int (bI tu)])), (mina, .inl (cI, 65536, .inl inp))])) (va_Qi (fun (r : Int32) (u : Int32 × Int32 × (Nat → Int32)) => (r = (f_Model_give th gv inp x n).1 ∧ u = (f_Model_give th gv inp x n).2) ∧ (0 ≤ Int32.toInt u.2.1 ∧ Int32.toInt u.2.1 ≤ 65536 ∧ gv.toInt ≤ Int32.toInt u.2.1)) (fun (u : Int32 × Int32 × (Nat → Int32)) (t : State) => va_P (dC, dI) classes [(mm, .inr (7, [.ref mwr, .ref mbr, .ref mwb, .ref mbb, .ref mbl, .ref mmo, .int u.1, .int (nI wd), .ref mli, .ref mab, .ref mou, .int bt, .int (bI cl), .int cd, .int c3.1, .int c3.2.1, .int c3.2.2, .ref mne, .int nx, .int w3.1, .int w3.2.1, .int w3.2.2, .ref mina, .int u.2.1, .ref mrl, .ref mra, .int lns, .int ps, .int st, .int (bI tu)])), (mina, .inl (cI, 65536, .inl u.2.2))] t.heap ∧ va_K (dC, dI) classes [(cI, .int), (cZ, .boolean)] t ∧ va_D (va_A [(mm, .inr (7, [.ref mwr, .ref mbr, .ref mwb, .ref mbb, .ref mbl, .ref mmo, .int th, .int (nI wd), .ref mli, .ref mab, .ref mou, .int bt, .int (bI cl), .int cd, .int c3.1, .int c3.2.1, .int c3.2.2, .ref mne, .int nx, .int w3.1, .int w3.2.1, .int w3.2.2, .ref mina, .int gv, .ref mrl, .ref mra, .int lns, .int ps, .int st, .int (bI tu)])), (mina, .inl (cI, 65536, .inl inp))] sz) [(mm, .inr (7, [.ref mwr, .ref mbr, .ref mwb, .ref mbb, .ref mbl, .ref mmo, .int u.1, .int (nI wd), .ref mli, .ref mab, .ref mou, .int bt, .int (bI cl), .int cd, .int c3.1, .int c3.2.1, .int c3.2.2, .ref mne, .int nx, .int w3.1, .int w3.2.1, .int w3.2.2, .ref mina, .int u.2.1, .ref mrl, .ref mra, .int lns, .int ps, .int st, .int (bI tu)])), (mina, .inl (cI, 65536, .inl u.2.2))]) (va_A [(mm, .inr (7, [.ref mwr, .ref mbr, .ref mwb, .ref mbb, .ref mbl, .ref mmo, .int th, .int (nI wd), .ref mli, .ref mab, .ref mou, .int bt, .int (bI cl), .int cd, .int c3.1, .int c3.2.1, .int c3.2.2, .ref mne, .int nx, .int w3.1, .int w3.2.1, .int w3.2.2, .ref mina, .int gv, .ref mrl, .ref mra, .int lns, .int ps, .int st, .int (bI tu)])), (mina, .inl (cI, 65536, .inl inp))] sz)) 0 0 (va_A [(mm, .inr (7, [.ref mwr, .ref mbr, .ref mwb, .ref mbb, .ref mbl, .ref mmo, .int th, .int (nI wd), .ref mli, .ref mab, .ref mou, .int bt, .int (bI cl), .int cd, .int c3.1, .int c3.2.1, .int c3.2.2, .ref mne, .int nx, .int w3.1, .int w3.2.1, .int w3.2.2, .ref mina, .int gv, .ref mrl, .ref mra, .int lns, .int ps, .int st, .int (bI tu)])), (mina, .inl (cI, 65536, .inl inp))] sz) := by
  refine Met.ofW (cc := b_Model_give) (maxL := 5) (ret := (some .boolean)) (by decide) rfl ?_
  intro p e s m args below meth c s₁ B hml hv
  obtain ⟨rfl, hsz, hP, hK, hD0⟩ := hv
  have hx := B.exec
  have hb := B.bytes
  have hr := B.returns
  have hts := atoms_spec (ws := w_Model_give) B.pre
  have hw : ∀ w ∈ WA, w.before _ s = true := fun w h => hts w (List.mem_cons_of_mem _ h)
  have hown : s.vm.findClass R_Model = some m.cls := findClass_of_methodNamed B.named
  have hlocks := B.notSynchronized
  subst hsz
  have hD := hD0.self (sz := s.heap.size)
  generalize hAe : va_A [(mm, .inr (7, [.ref mwr, .ref mbr, .ref mwb, .ref mbb, .ref mbl, .ref mmo, .int th, .int (nI wd), .ref mli, .ref mab, .ref mou, .int bt, .int (bI cl), .int cd, .int c3.1, .int c3.2.1, .int c3.2.2, .ref mne, .int nx, .int w3.1, .int w3.2.1, .int w3.2.2, .ref mina, .int gv, .ref mrl, .ref mra, .int lns, .int ps, .int st, .int (bI tu)])), (mina, .inl (cI, 65536, .inl inp))] s.heap.size = A at hD ⊢
  have hA : ∀ q : Nat, s.heap.size ≤ q → A q := fun q h => by rw [← hAe]; exact Or.inr h
  have hS : va_S A s.heap s.heap [] := va_S.rf
  have hP : va_P (dC, dI) classes [(mm, .inr (7, [.ref mwr, .ref mbr, .ref mwb, .ref mbb, .ref mbl, .ref mmo, .int th, .int (nI wd), .ref mli, .ref mab, .ref mou, .int bt, .int (bI cl), .int cd, .int c3.1, .int c3.2.1, .int c3.2.2, .ref mne, .int nx, .int w3.1, .int w3.2.1, .int w3.2.2, .ref mina, .int gv, .ref mrl, .ref mra, .int lns, .int ps, .int st, .int (bI tu)])), (mina, .inl (cI, 65536, .inl inp))] s.heap := hP
  have hl := lv_entry ([.ref mm, .long x, .int n]) (n := 5) (Nat.le_of_ble_eq_true rfl)
  rw [lg_entry_eq]
  generalize (lg_sl ([.ref mm, .long x, .int n]) ++ List.replicate (5 - (lg_sl ([.ref mm, .long x, .int n])).length) Slot.unset).toArray = ls at hl ⊢
  have hl : lv_has ls 5 [(0, .ref mm), (1, .long x), (3, .int n)] := hl
  refine lv_aload_n hx hb d_Model_give_0 rfl (lv_at hl 0 rfl) ?_
  refine lv_iconst (v := 0) hx hb d_Model_give_1 (by decide) ?_
  refine va_put (D := (dC, dI)) (ci := 7) (v := .int 0) (ty := .int) (C := R_Model) (T := F_Model) (N := 30) hx hb hw i_Model t_Model t_Model_ok n_Model hown hK hP hD hS 0 rfl rfl 6 (by decide) (hw _ m_670) (fun _ h9 => h9) rfl (by decide +kernel) rfl rfl (Nat.le_of_ble_eq_true rfl) d_Model_give_2 (fun H locs hP hD hS => ?_)
  have hP : va_P (dC, dI) classes [(mm, .inr (7, [.ref mwr, .ref mbr, .ref mwb, .ref mbb, .ref mbl, .ref mmo, .int 0, .int (nI wd), .ref mli, .ref mab, .ref mou, .int bt, .int (bI cl), .int cd, .int c3.1, .int c3.2.1, .int c3.2.2, .ref mne, .int nx, .int w3.1, .int w3.2.1, .int w3.2.2, .ref mina, .int gv, .ref mrl, .ref mra, .int lns, .int ps, .int st, .int (bI tu)])), (mina, .inl (cI, 65536, .inl inp))] H := hP
  have hD : va_D A [(mm, .inr (7, [.ref mwr, .ref mbr, .ref mwb, .ref mbb, .ref mbl, .ref mmo, .int 0, .int (nI wd), .ref mli, .ref mab, .ref mou, .int bt, .int (bI cl), .int cd, .int c3.1, .int c3.2.1, .int c3.2.2, .ref mne, .int nx, .int w3.1, .int w3.2.1, .int w3.2.2, .ref mina, .int gv, .ref mrl, .ref mra, .int lns, .int ps, .int st, .int (bI tu)])), (mina, .inl (cI, 65536, .inl inp))] := hD
  refine lv_iload_n hx hb d_Model_give_5 rfl (lv_at hl 2 rfl) ?_
  refine lv_iconst (v := 1) hx hb d_Model_give_6 (by decide) ?_
  refine lv_icmp_lt (tgt := 27) hx hb d_Model_give_7 (by decide) (fun c_1 => ?_) (fun c_1 => ?_)
  · refine lv_iconst (v := 0) hx hb d_Model_give_27 (by decide) ?_
    have hP9 := hP.sub (ws' := [(mm, .inr (7, [.ref mwr, .ref mbr, .ref mwb, .ref mbb, .ref mbl, .ref mmo, .int 0, .int (nI wd), .ref mli, .ref mab, .ref mou, .int bt, .int (bI cl), .int cd, .int c3.1, .int c3.2.1, .int c3.2.2, .ref mne, .int nx, .int w3.1, .int w3.2.1, .int w3.2.2, .ref mina, .int gv, .ref mrl, .ref mra, .int lns, .int ps, .int st, .int (bI tu)])), (mina, .inl (cI, 65536, .inl inp))]) [0, 1] rfl
    have hD9 := hD.sub (ws' := [(mm, .inr (7, [.ref mwr, .ref mbr, .ref mwb, .ref mbb, .ref mbl, .ref mmo, .int 0, .int (nI wd), .ref mli, .ref mab, .ref mou, .int bt, .int (bI cl), .int cd, .int c3.1, .int c3.2.1, .int c3.2.2, .ref mne, .int nx, .int w3.1, .int w3.2.1, .int w3.2.2, .ref mina, .int gv, .ref mrl, .ref mra, .int lns, .int ps, .int st, .int (bI tu)])), (mina, .inl (cI, 65536, .inl inp))]) [0, 1] (by decide) rfl
    have hK9 := hK
    exact W.zret (v := 0) hx hb hr rfl (fun t ht hW => ⟨⟨0, (0, gv, inp), rfl, ⟨(by have h9 : f_Model_give th gv inp x n = (0, (0, gv, inp)) := (by exact ((if_pos c_1).trans (rfl))); exact ⟨(congrArg Prod.fst h9).symm, (congrArg Prod.snd h9).symm⟩), (by exact ⟨hgv.1, hgv.2, Int.le_refl _⟩)⟩, ⟨by rw [ht]; exact hP9, va_K.moved hW.alike hK9, hD9⟩⟩, hS.F ht⟩) hS.2.2 d_Model_give_28
  · refine lv_iload_n hx hb d_Model_give_10 rfl (lv_at hl 2 rfl) ?_
    refine lv_bipush (v := 8) hx hb d_Model_give_11 (by decide) ?_
    refine lv_icmp_gt (tgt := 27) hx hb d_Model_give_13 (by decide) (fun c_2 => ?_) (fun c_2 => ?_)
    · refine lv_iconst (v := 0) hx hb d_Model_give_27 (by decide) ?_
      have hP9 := hP.sub (ws' := [(mm, .inr (7, [.ref mwr, .ref mbr, .ref mwb, .ref mbb, .ref mbl, .ref mmo, .int 0, .int (nI wd), .ref mli, .ref mab, .ref mou, .int bt, .int (bI cl), .int cd, .int c3.1, .int c3.2.1, .int c3.2.2, .ref mne, .int nx, .int w3.1, .int w3.2.1, .int w3.2.2, .ref mina, .int gv, .ref mrl, .ref mra, .int lns, .int ps, .int st, .int (bI tu)])), (mina, .inl (cI, 65536, .inl inp))]) [0, 1] rfl
      have hD9 := hD.sub (ws' := [(mm, .inr (7, [.ref mwr, .ref mbr, .ref mwb, .ref mbb, .ref mbl, .ref mmo, .int 0, .int (nI wd), .ref mli, .ref mab, .ref mou, .int bt, .int (bI cl), .int cd, .int c3.1, .int c3.2.1, .int c3.2.2, .ref mne, .int nx, .int w3.1, .int w3.2.1, .int w3.2.2, .ref mina, .int gv, .ref mrl, .ref mra, .int lns, .int ps, .int st, .int (bI tu)])), (mina, .inl (cI, 65536, .inl inp))]) [0, 1] (by decide) rfl
      have hK9 := hK
      exact W.zret (v := 0) hx hb hr rfl (fun t ht hW => ⟨⟨0, (0, gv, inp), rfl, ⟨(by have h9 : f_Model_give th gv inp x n = (0, (0, gv, inp)) := (by exact ((if_neg c_1).trans ((if_pos c_2).trans (rfl)))); exact ⟨(congrArg Prod.fst h9).symm, (congrArg Prod.snd h9).symm⟩), (by exact ⟨hgv.1, hgv.2, Int.le_refl _⟩)⟩, ⟨by rw [ht]; exact hP9, va_K.moved hW.alike hK9, hD9⟩⟩, hS.F ht⟩) hS.2.2 d_Model_give_28
    · refine lv_aload_n hx hb d_Model_give_16 rfl (lv_at hl 0 rfl) ?_
      refine va_get (D := (dC, dI)) (ci := 7) (v := .int gv) (C := R_Model) (T := F_Model) (N := 30) hx hb hw i_Model hown hK hP 0 rfl rfl 23 (by decide) (hw _ m_687) (fun _ h9 => h9) rfl d_Model_give_17 ?_
      refine lv_iload_n hx hb d_Model_give_20 rfl (lv_at hl 2 rfl) ?_
      refine lv_iadd hx hb d_Model_give_21 ?_
      refine lv_ldc (v := 65536) hx hb hown (hw _ m_663) d_Model_give_22 ?_
      refine lv_icmp_le (tgt := 29) hx hb d_Model_give_24 (by decide) (fun c_3 => ?_) (fun c_3 => ?_)
      · have n1 : 1 ≤ Int32.toInt n := by have h9 := c_1; rw [ti_lt, ti_1] at h9; omega
        have n8 : Int32.toInt n ≤ 8 := by have h9 := c_2; rw [ti_lt, t8] at h9; omega
        have n6 : Int32.toInt gv + Int32.toInt n ≤ 65536 := by have h9 := c_3; rw [ti_le, t65, ti_add (by omega) (by omega)] at h9; omega
        refine lv_iload_n hx hb d_Model_give_29 rfl (lv_at hl 2 rfl) ?_
        refine lv_iconst (v := 1) hx hb d_Model_give_30 (by decide) ?_
        refine lv_isub hx hb d_Model_give_31 ?_
        refine lv_topi (fun x_4 ex_4 => ?_)
        replace ex_4 := ex_4.symm
        refine lv_istore (lv' := [(4, .int x_4), (0, .ref mm), (1, .long x), (3, .int n)]) hx hb d_Model_give_32 hl (by decide) rfl (fun ls hl => ?_)
        have hF9 : f_Model_give th gv inp x n = l_Model_give_34 th gv inp x n ((Int32.toInt x_4 + 1).toNat + 1) gv inp x_4 := (by subst ex_4; exact ((if_neg c_1).trans ((if_neg c_2).trans ((if_pos c_3).trans (rfl)))))
        have hI9 : 0 ≤ Int32.toInt gv ∧ Int32.toInt gv + Int32.toInt x_4 + 1 ≤ 65536 ∧ -1 ≤ Int32.toInt x_4 ∧ Int32.toInt x_4 ≤ 7 ∧ gv.toInt ≤ Int32.toInt gv := (by subst ex_4; rw [ti_sub (by rw [ti_1]; omega) (by rw [ti_1]; omega), ti_1]; omega)
        have hP9 := hP.sub (ws' := [(mm, .inr (7, [.ref mwr, .ref mbr, .ref mwb, .ref mbb, .ref mbl, .ref mmo, .int 0, .int (nI wd), .ref mli, .ref mab, .ref mou, .int bt, .int (bI cl), .int cd, .int c3.1, .int c3.2.1, .int c3.2.2, .ref mne, .int nx, .int w3.1, .int w3.2.1, .int w3.2.2, .ref mina, .int gv, .ref mrl, .ref mra, .int lns, .int ps, .int st, .int (bI tu)])), (mina, .inl (cI, 65536, .inl inp))]) [0, 1] rfl
        have hD9 := hD.sub (ws' := [(mm, .inr (7, [.ref mwr, .ref mbr, .ref mwb, .ref mbb, .ref mbl, .ref mmo, .int 0, .int (nI wd), .ref mli, .ref mab, .ref mou, .int bt, .int (bI cl), .int cd, .int c3.1, .int c3.2.1, .int c3.2.2, .ref mne, .int nx, .int w3.1, .int w3.2.1, .int w3.2.2, .ref mina, .int gv, .ref mrl, .ref mra, .int lns, .int ps, .int st, .int (bI tu)])), (mina, .inl (cI, 65536, .inl inp))]) [0, 1] (by decide) rfl
        have hl9 := lv_sub (l' := [(4, .int x_4), (0, .ref mm), (1, .long x), (3, .int n)]) hl [0, 1, 2, 3] rfl
        refine lp_n (pc := 34) (σ := Int32 × (Nat → Int32) × Int32) (I := fun nQ vQ H locs ls => (Int32.toInt vQ.2.2 + 1).toNat < nQ ∧ f_Model_give th gv inp x n = l_Model_give_34 th gv inp x n nQ vQ.1 vQ.2.1 vQ.2.2 ∧ (0 ≤ Int32.toInt vQ.1 ∧ Int32.toInt vQ.1 + Int32.toInt vQ.2.2 + 1 ≤ 65536 ∧ -1 ≤ Int32.toInt vQ.2.2 ∧ Int32.toInt vQ.2.2 ≤ 7 ∧ gv.toInt ≤ Int32.toInt vQ.1) ∧ va_P (dC, dI) classes [(mm, .inr (7, [.ref mwr, .ref mbr, .ref mwb, .ref mbb, .ref mbl, .ref mmo, .int 0, .int (nI wd), .ref mli, .ref mab, .ref mou, .int bt, .int (bI cl), .int cd, .int c3.1, .int c3.2.1, .int c3.2.2, .ref mne, .int nx, .int w3.1, .int w3.2.1, .int w3.2.2, .ref mina, .int vQ.1, .ref mrl, .ref mra, .int lns, .int ps, .int st, .int (bI tu)])), (mina, .inl (cI, 65536, .inl vQ.2.1))] H ∧ va_D A [(mm, .inr (7, [.ref mwr, .ref mbr, .ref mwb, .ref mbb, .ref mbl, .ref mmo, .int 0, .int (nI wd), .ref mli, .ref mab, .ref mou, .int bt, .int (bI cl), .int cd, .int c3.1, .int c3.2.1, .int c3.2.2, .ref mne, .int nx, .int w3.1, .int w3.2.1, .int w3.2.2, .ref mina, .int vQ.1, .ref mrl, .ref mra, .int lns, .int ps, .int st, .int (bI tu)])), (mina, .inl (cI, 65536, .inl vQ.2.1))] ∧ va_S A s.heap H locs ∧ lv_has ls 5 [(4, .int vQ.2.2), (0, .ref mm), (1, .long x), (3, .int n)]) (fun vQ H locs ls h => absurd h.1 (Nat.not_lt_zero _)) ?_ ((Int32.toInt x_4 + 1).toNat + 1) (gv, inp, x_4) _ _ _ ⟨Nat.lt_succ_self _, hF9, hI9, hP9, hD9, hS, hl9⟩
        intro n34 ih34 vQ H locs ls hI
        obtain ⟨b, g, k⟩ := vQ
        obtain ⟨hmu34, hF34, hinv, hP, hD, hS, hl⟩ := hI
        have hinv : 0 ≤ Int32.toInt b ∧ Int32.toInt b + Int32.toInt k + 1 ≤ 65536 ∧ -1 ≤ Int32.toInt k ∧ Int32.toInt k ≤ 7 ∧ gv.toInt ≤ Int32.toInt b := hinv
        obtain ⟨hi1, hi2, hi3, hi4, hi5⟩ := hinv
        have hmu34 : (Int32.toInt k + 1).toNat < n34 + 1 := hmu34
        have hF34 : f_Model_give th gv inp x n = l_Model_give_34 th gv inp x n (n34 + 1) b g k := hF34
        have hP : va_P (dC, dI) classes [(mm, .inr (7, [.ref mwr, .ref mbr, .ref mwb, .ref mbb, .ref mbl, .ref mmo, .int 0, .int (nI wd), .ref mli, .ref mab, .ref mou, .int bt, .int (bI cl), .int cd, .int c3.1, .int c3.2.1, .int c3.2.2, .ref mne, .int nx, .int w3.1, .int w3.2.1, .int w3.2.2, .ref mina, .int b, .ref mrl, .ref mra, .int lns, .int ps, .int st, .int (bI tu)])), (mina, .inl (cI, 65536, .inl g))] H := hP
        have hD : va_D A [(mm, .inr (7, [.ref mwr, .ref mbr, .ref mwb, .ref mbb, .ref mbl, .ref mmo, .int 0, .int (nI wd), .ref mli, .ref mab, .ref mou, .int bt, .int (bI cl), .int cd, .int c3.1, .int c3.2.1, .int c3.2.2, .ref mne, .int nx, .int w3.1, .int w3.2.1, .int w3.2.2, .ref mina, .int b, .ref mrl, .ref mra, .int lns, .int ps, .int st, .int (bI tu)])), (mina, .inl (cI, 65536, .inl g))] := hD
        have hl : lv_has ls 5 [(4, .int k), (0, .ref mm), (1, .long x), (3, .int n)] := hl
        refine lv_iload hx hb d_Model_give_34 (lv_at hl 0 rfl) ?_
        refine lv_if_lt (tgt := 76) hx hb d_Model_give_36 (by decide) (fun c_5 => ?_) (fun c_5 => ?_)
        · refine lv_iconst (v := 1) hx hb d_Model_give_76 (by decide) ?_
          have hP9 := hP.sub (ws' := [(mm, .inr (7, [.ref mwr, .ref mbr, .ref mwb, .ref mbb, .ref mbl, .ref mmo, .int 0, .int (nI wd), .ref mli, .ref mab, .ref mou, .int bt, .int (bI cl), .int cd, .int c3.1, .int c3.2.1, .int c3.2.2, .ref mne, .int nx, .int w3.1, .int w3.2.1, .int w3.2.2, .ref mina, .int b, .ref mrl, .ref mra, .int lns, .int ps, .int st, .int (bI tu)])), (mina, .inl (cI, 65536, .inl g))]) [0, 1] rfl
          have hD9 := hD.sub (ws' := [(mm, .inr (7, [.ref mwr, .ref mbr, .ref mwb, .ref mbb, .ref mbl, .ref mmo, .int 0, .int (nI wd), .ref mli, .ref mab, .ref mou, .int bt, .int (bI cl), .int cd, .int c3.1, .int c3.2.1, .int c3.2.2, .ref mne, .int nx, .int w3.1, .int w3.2.1, .int w3.2.2, .ref mina, .int b, .ref mrl, .ref mra, .int lns, .int ps, .int st, .int (bI tu)])), (mina, .inl (cI, 65536, .inl g))]) [0, 1] (by decide) rfl
          have hK9 := hK
          exact W.zret (v := 1) hx hb hr rfl (fun t ht hW => ⟨⟨1, (0, b, g), rfl, ⟨(by have h9 : f_Model_give th gv inp x n = (1, (0, b, g)) := (by exact (hF34.trans ((if_pos c_5).trans (rfl)))); exact ⟨(congrArg Prod.fst h9).symm, (congrArg Prod.snd h9).symm⟩), (by show 0 ≤ Int32.toInt b ∧ Int32.toInt b ≤ 65536 ∧ gv.toInt ≤ Int32.toInt b; omega)⟩, ⟨by rw [ht]; exact hP9, va_K.moved hW.alike hK9, hD9⟩⟩, hS.F ht⟩) hS.2.2 d_Model_give_77
        · refine lv_aload_n hx hb d_Model_give_39 rfl (lv_at hl 1 rfl) ?_
          refine va_get (D := (dC, dI)) (ci := 7) (v := .ref mina) (C := R_Model) (T := F_Model) (N := 30) hx hb hw i_Model hown hK hP 0 rfl rfl 22 (by decide) (hw _ m_686) (fun _ h9 => h9) rfl d_Model_give_40 ?_
          refine lv_aload_n hx hb d_Model_give_43 rfl (lv_at hl 1 rfl) ?_
          refine va_get (D := (dC, dI)) (ci := 7) (v := .int b) (C := R_Model) (T := F_Model) (N := 30) hx hb hw i_Model hown hK hP 0 rfl rfl 23 (by decide) (hw _ m_687) (fun _ h9 => h9) rfl d_Model_give_44 ?_
          refine lv_lload_n hx hb d_Model_give_47 rfl (lv_at hl 2 rfl) ?_
          refine lv_bipush (v := 8) hx hb d_Model_give_48 (by decide) ?_
          refine lv_iload hx hb d_Model_give_50 (lv_at hl 0 rfl) ?_
          refine lv_imul hx hb d_Model_give_52 ?_
          refine lv_lshr hx hb d_Model_give_53 rfl ?_
          refine lv_ldc2 (v := 255) hx hb hown (hw _ m_817) d_Model_give_54 ?_
          refine lv_land hx hb d_Model_give_57 ?_
          refine lv_l2i hx hb d_Model_give_58 rfl ?_
          refine lv_topi (fun x_6 ex_6 => ?_)
          replace ex_6 := ex_6.symm
          refine va_iast hx hb hK hP hD hS 1 0 rfl rfl (by have h9 := c_5; rw [ti_lt, ti_0] at h9; exact ti_in (by omega) (by omega)) d_Model_give_59 (fun H locs hP hD hS => ?_)
          obtain ⟨g_7, eg_7⟩ : ∃ y : Nat → Int32, y = upd g b.toNatClampNeg x_6 := ⟨_, rfl⟩
          rw [← eg_7] at hP hD
          replace eg_7 := eg_7.symm
          have hP : va_P (dC, dI) classes [(mm, .inr (7, [.ref mwr, .ref mbr, .ref mwb, .ref mbb, .ref mbl, .ref mmo, .int 0, .int (nI wd), .ref mli, .ref mab, .ref mou, .int bt, .int (bI cl), .int cd, .int c3.1, .int c3.2.1, .int c3.2.2, .ref mne, .int nx, .int w3.1, .int w3.2.1, .int w3.2.2, .ref mina, .int b, .ref mrl, .ref mra, .int lns, .int ps, .int st, .int (bI tu)])), (mina, .inl (cI, 65536, .inl g_7))] H := hP
          have hD : va_D A [(mm, .inr (7, [.ref mwr, .ref mbr, .ref mwb, .ref mbb, .ref mbl, .ref mmo, .int 0, .int (nI wd), .ref mli, .ref mab, .ref mou, .int bt, .int (bI cl), .int cd, .int c3.1, .int c3.2.1, .int c3.2.2, .ref mne, .int nx, .int w3.1, .int w3.2.1, .int w3.2.2, .ref mina, .int b, .ref mrl, .ref mra, .int lns, .int ps, .int st, .int (bI tu)])), (mina, .inl (cI, 65536, .inl g_7))] := hD
          refine lv_aload_n hx hb d_Model_give_60 rfl (lv_at hl 1 rfl) ?_
          refine lv_dup hx hb d_Model_give_61 rfl ?_
          refine va_get (D := (dC, dI)) (ci := 7) (v := .int b) (C := R_Model) (T := F_Model) (N := 30) hx hb hw i_Model hown hK hP 0 rfl rfl 23 (by decide) (hw _ m_687) (fun _ h9 => h9) rfl d_Model_give_62 ?_
          refine lv_iconst (v := 1) hx hb d_Model_give_65 (by decide) ?_
          refine lv_iadd hx hb d_Model_give_66 ?_
          refine lv_topi (fun x_8 ex_8 => ?_)
          replace ex_8 := ex_8.symm
          refine va_put (D := (dC, dI)) (ci := 7) (v := .int x_8) (ty := .int) (C := R_Model) (T := F_Model) (N := 30) hx hb hw i_Model t_Model t_Model_ok n_Model hown hK hP hD hS 0 rfl rfl 23 (by decide) (hw _ m_687) (fun _ h9 => h9) rfl (by decide +kernel) rfl rfl (Nat.le_of_ble_eq_true rfl) d_Model_give_67 (fun H locs hP hD hS => ?_)
          have hP : va_P (dC, dI) classes [(mm, .inr (7, [.ref mwr, .ref mbr, .ref mwb, .ref mbb, .ref mbl, .ref mmo, .int 0, .int (nI wd), .ref mli, .ref mab, .ref mou, .int bt, .int (bI cl), .int cd, .int c3.1, .int c3.2.1, .int c3.2.2, .ref mne, .int nx, .int w3.1, .int w3.2.1, .int w3.2.2, .ref mina, .int x_8, .ref mrl, .ref mra, .int lns, .int ps, .int st, .int (bI tu)])), (mina, .inl (cI, 65536, .inl g_7))] H := hP
          have hD : va_D A [(mm, .inr (7, [.ref mwr, .ref mbr, .ref mwb, .ref mbb, .ref mbl, .ref mmo, .int 0, .int (nI wd), .ref mli, .ref mab, .ref mou, .int bt, .int (bI cl), .int cd, .int c3.1, .int c3.2.1, .int c3.2.2, .ref mne, .int nx, .int w3.1, .int w3.2.1, .int w3.2.2, .ref mina, .int x_8, .ref mrl, .ref mra, .int lns, .int ps, .int st, .int (bI tu)])), (mina, .inl (cI, 65536, .inl g_7))] := hD
          obtain ⟨x_9, ex_9⟩ : ∃ y : Int32, y = k + (-1) := ⟨_, rfl⟩
          refine lv_iinc (v := x_9) (lv' := [(4, .int x_9), (0, .ref mm), (1, .long x), (3, .int n)]) hx hb d_Model_give_70 hl (k := 0) rfl (by rw [ex_9]; rfl) (by decide) rfl (fun ls hl => ?_)
          replace ex_9 := ex_9.symm
          refine lv_goto (tgt := 34) hx hb d_Model_give_73 (by decide) ?_
          have hF9 : f_Model_give th gv inp x n = l_Model_give_34 th gv inp x n n34 x_8 g_7 x_9 := (by subst ex_6 eg_7 ex_8 ex_9; exact (hF34.trans ((if_neg c_5).trans (rfl))))
          have hI9 : 0 ≤ Int32.toInt x_8 ∧ Int32.toInt x_8 + Int32.toInt x_9 + 1 ≤ 65536 ∧ -1 ≤ Int32.toInt x_9 ∧ Int32.toInt x_9 ≤ 7 ∧ gv.toInt ≤ Int32.toInt x_8 := (by subst ex_6 eg_7 ex_8 ex_9; have h9 := c_5; rw [ti_lt, ti_0] at h9; rw [ti_add (a := k) (by rw [ti_m1]; omega) (by rw [ti_m1]; omega), ti_m1, ti_add (a := b) (by rw [ti_1]; omega) (by rw [ti_1]; omega), ti_1]; omega)
          have hP9 := hP.sub (ws' := [(mm, .inr (7, [.ref mwr, .ref mbr, .ref mwb, .ref mbb, .ref mbl, .ref mmo, .int 0, .int (nI wd), .ref mli, .ref mab, .ref mou, .int bt, .int (bI cl), .int cd, .int c3.1, .int c3.2.1, .int c3.2.2, .ref mne, .int nx, .int w3.1, .int w3.2.1, .int w3.2.2, .ref mina, .int x_8, .ref mrl, .ref mra, .int lns, .int ps, .int st, .int (bI tu)])), (mina, .inl (cI, 65536, .inl g_7))]) [0, 1] rfl
          have hD9 := hD.sub (ws' := [(mm, .inr (7, [.ref mwr, .ref mbr, .ref mwb, .ref mbb, .ref mbl, .ref mmo, .int 0, .int (nI wd), .ref mli, .ref mab, .ref mou, .int bt, .int (bI cl), .int cd, .int c3.1, .int c3.2.1, .int c3.2.2, .ref mne, .int nx, .int w3.1, .int w3.2.1, .int w3.2.2, .ref mina, .int x_8, .ref mrl, .ref mra, .int lns, .int ps, .int st, .int (bI tu)])), (mina, .inl (cI, 65536, .inl g_7))]) [0, 1] (by decide) rfl
          have hl9 := lv_sub (l' := [(4, .int x_9), (0, .ref mm), (1, .long x), (3, .int n)]) hl [0, 1, 2, 3] rfl
          have hm9 : (Int32.toInt x_9 + 1).toNat < (Int32.toInt k + 1).toNat := (by subst ex_6 eg_7 ex_8 ex_9; have h9 := c_5; rw [ti_lt, ti_0] at h9; rw [ti_add (by rw [ti_m1]; omega) (by rw [ti_m1]; omega), ti_m1]; omega)
          exact ih34 (x_8, g_7, x_9) _ _ _ ⟨Nat.lt_of_lt_of_le hm9 (Nat.le_of_lt_succ hmu34), hF9, hI9, hP9, hD9, hS, hl9⟩
      · refine lv_iconst (v := 0) hx hb d_Model_give_27 (by decide) ?_
        have hP9 := hP.sub (ws' := [(mm, .inr (7, [.ref mwr, .ref mbr, .ref mwb, .ref mbb, .ref mbl, .ref mmo, .int 0, .int (nI wd), .ref mli, .ref mab, .ref mou, .int bt, .int (bI cl), .int cd, .int c3.1, .int c3.2.1, .int c3.2.2, .ref mne, .int nx, .int w3.1, .int w3.2.1, .int w3.2.2, .ref mina, .int gv, .ref mrl, .ref mra, .int lns, .int ps, .int st, .int (bI tu)])), (mina, .inl (cI, 65536, .inl inp))]) [0, 1] rfl
        have hD9 := hD.sub (ws' := [(mm, .inr (7, [.ref mwr, .ref mbr, .ref mwb, .ref mbb, .ref mbl, .ref mmo, .int 0, .int (nI wd), .ref mli, .ref mab, .ref mou, .int bt, .int (bI cl), .int cd, .int c3.1, .int c3.2.1, .int c3.2.2, .ref mne, .int nx, .int w3.1, .int w3.2.1, .int w3.2.2, .ref mina, .int gv, .ref mrl, .ref mra, .int lns, .int ps, .int st, .int (bI tu)])), (mina, .inl (cI, 65536, .inl inp))]) [0, 1] (by decide) rfl
        have hK9 := hK
        exact W.zret (v := 0) hx hb hr rfl (fun t ht hW => ⟨⟨0, (0, gv, inp), rfl, ⟨(by have h9 : f_Model_give th gv inp x n = (0, (0, gv, inp)) := (by exact ((if_neg c_1).trans ((if_neg c_2).trans ((if_neg c_3).trans (rfl))))); exact ⟨(congrArg Prod.fst h9).symm, (congrArg Prod.snd h9).symm⟩), (by exact ⟨hgv.1, hgv.2, Int.le_refl _⟩)⟩, ⟨by rw [ht]; exact hP9, va_K.moved hW.alike hK9, hD9⟩⟩, hS.F ht⟩) hS.2.2 d_Model_give_28
