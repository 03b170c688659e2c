def l_Model_dotAfter_5 (of : Nat → Bool) (wd : Nat) (pl : Int32) (bk : Bool) : Nat → Int32 → Int32
  | 0, _ => default
  | n5 + 1, x => if (nI wd) ≤ x then (nI wd) else (if (bI (of x.toNatClampNeg)) = (bI bk) then (x) else (let x_7 := x + 1; l_Model_dotAfter_5 of wd pl bk n5 x_7))
def f_Model_dotAfter (of : Nat → Bool) (wd : Nat) (pl : Int32) (bk : Bool) : Int32 := let x_1 := pl + 1; l_Model_dotAfter_5 of wd pl bk (((nI wd).toInt - Int32.toInt x_1).toNat + 1) x_1
set_option maxHeartbeats 4000000 in
set_option maxRecDepth 100000 in
theorem c_Model_dotAfter (l : Launch) (dC : Nat → ClassId) (dI : Nat → Nat → Nat) (cI cZ : ClassId) (mm : Nat) (mwr : Nat) (mbr : Nat) (mwb : Nat) (mbb : Nat) (mbl : Nat) (mmo : Nat) (mli : Nat) (mab : Nat) (mou : Nat) (mne : Nat) (mina : Nat) (mrl : Nat) (mra : Nat) (oa : Nat) (of : Nat → Bool) (wd : Nat) (th : Int32) (bt : Int32) (cl : Bool) (cd : Int32) (c3 : Int32 × Int32 × Int32) (nx : Int32) (w3 : Int32 × Int32 × Int32) (gv : Int32) (lns : Int32) (ps : Int32) (st : Int32) (tu : Bool) (sz : Nat)  (pl : Int32) (bk : Bool) (hwd : wd ≤ 10000) (hpl : ¬ (pl + 1) < 0) : Met l y_Model_dotAfter w_Model_dotAfter ({ frames := 0, cells := 0, slots := 0, locals := 0 }) (va_Pc [.ref mm, .ref oa, .int pl, .int (bI bk)] (fun U => U.heap.size = sz ∧ va_P (dC, dI) classes [(mm, .inr (7, [.ref mwr, .ref mbr, .ref mwb, .ref mbb, .ref mbl, .ref mmo, .int th, .int (nI wd), .ref mli, .ref mab, .ref mou, .int bt, .int (bI cl), .int cd, .int c3.1, .int c3.2.1, .int c3.2.2, .ref mne, .int nx, .int w3.1, .int w3.2.1, .int w3.2.2, .ref mina, .int gv, .ref mrl, .ref mra, .int lns, .int ps, .int st, .int (bI tu)])), (oa, .inl (cZ, wd, .inl (fun jz => bI (of jz))))] U.heap ∧ va_K (dC, dI) classes [(cI, .int), (cZ, .boolean)] U ∧ va_D (fun _ => True) [(mm, .inr (7, [.ref mwr, .ref mbr, .ref mwb, .ref mbb, .ref mbl, .ref mmo, .int th, .int (nI wd), .ref mli, .ref mab, .ref mou, .int bt, .int (bI cl), .int cd, .int c3.1, .int c3.2.1, .int c3.2.2, .ref mne, .int nx, .int w3.1, .int w3.2.1, .int w3.2.2, .ref mina, .int gv, .ref mrl, .ref mra, .int lns, .int ps, .int st, .int (bI tu)])), (oa, .inl (cZ, wd, .inl (fun jz => bI (of jz))))])) (va_Qi (fun (r : Int32) (u : Unit) => r = f_Model_dotAfter of wd pl bk) (fun (u : Unit) (t : State) => va_P (dC, dI) classes [(mm, .inr (7, [.ref mwr, .ref mbr, .ref mwb, .ref mbb, .ref mbl, .ref mmo, .int th, .int (nI wd), .ref mli, .ref mab, .ref mou, .int bt, .int (bI cl), .int cd, .int c3.1, .int c3.2.1, .int c3.2.2, .ref mne, .int nx, .int w3.1, .int w3.2.1, .int w3.2.2, .ref mina, .int gv, .ref mrl, .ref mra, .int lns, .int ps, .int st, .int (bI tu)])), (oa, .inl (cZ, wd, .inl (fun jz => bI (of jz))))] t.heap ∧ va_K (dC, dI) classes [(cI, .int), (cZ, .boolean)] t ∧ va_D (va_A [(mm, .inr (7, [.ref mwr, .ref mbr, .ref mwb, .ref mbb, .ref mbl, .ref mmo, .int th, .int (nI wd), .ref mli, .ref mab, .ref mou, .int bt, .int (bI cl), .int cd, .int c3.1, .int c3.2.1, .int c3.2.2, .ref mne, .int nx, .int w3.1, .int w3.2.1, .int w3.2.2, .ref mina, .int gv, .ref mrl, .ref mra, .int lns, .int ps, .int st, .int (bI tu)])), (oa, .inl (cZ, wd, .inl (fun jz => bI (of jz))))] sz) [(mm, .inr (7, [.ref mwr, .ref mbr, .ref mwb, .ref mbb, .ref mbl, .ref mmo, .int th, .int (nI wd), .ref mli, .ref mab, .ref mou, .int bt, .int (bI cl), .int cd, .int c3.1, .int c3.2.1, .int c3.2.2, .ref mne, .int nx, .int w3.1, .int w3.2.1, .int w3.2.2, .ref mina, .int gv, .ref mrl, .ref mra, .int lns, .int ps, .int st, .int (bI tu)])), (oa, .inl (cZ, wd, .inl (fun jz => bI (of jz))))]) (va_A [(mm, .inr (7, [.ref mwr, .ref mbr, .ref mwb, .ref mbb, .ref mbl, .ref mmo, .int th, .int (nI wd), .ref mli, .ref mab, .ref mou, .int bt, .int (bI cl), .int cd, .int c3.1, .int c3.2.1, .int c3.2.2, .ref mne, .int nx, .int w3.1, .int w3.2.1, .int w3.2.2, .ref mina, .int gv, .ref mrl, .ref mra, .int lns, .int ps, .int st, .int (bI tu)])), (oa, .inl (cZ, wd, .inl (fun jz => bI (of jz))))] sz)) 0 0 (va_A [(mm, .inr (7, [.ref mwr, .ref mbr, .ref mwb, .ref mbb, .ref mbl, .ref mmo, .int th, .int (nI wd), .ref mli, .ref mab, .ref mou, .int bt, .int (bI cl), .int cd, .int c3.1, .int c3.2.1, .int c3.2.2, .ref mne, .int nx, .int w3.1, .int w3.2.1, .int w3.2.2, .ref mina, .int gv, .ref mrl, .ref mra, .int lns, .int ps, .int st, .int (bI tu)])), (oa, .inl (cZ, wd, .inl (fun jz => bI (of jz))))] sz) := by
  refine Met.ofW (cc := b_Model_dotAfter) (maxL := 5) (ret := (some .int)) (by decide) rfl ?_
  intro p e s m args below meth c s₁ B hml hv
  obtain ⟨rfl, hsz, hP, hK, hD0⟩ := hv
  have hx := B.exec
  have hb := B.bytes
  have hr := B.returns
  have hts := atoms_spec (ws := w_Model_dotAfter) B.pre
  have hw : ∀ w ∈ WA, w.before _ s = true := fun w h => hts w (List.mem_cons_of_mem _ h)
  have hown : s.vm.findClass R_Model = some m.cls := findClass_of_methodNamed B.named
  have hlocks := B.notSynchronized
  subst hsz
  have hD := hD0.self (sz := s.heap.size)
  generalize hAe : va_A [(mm, .inr (7, [.ref mwr, .ref mbr, .ref mwb, .ref mbb, .ref mbl, .ref mmo, .int th, .int (nI wd), .ref mli, .ref mab, .ref mou, .int bt, .int (bI cl), .int cd, .int c3.1, .int c3.2.1, .int c3.2.2, .ref mne, .int nx, .int w3.1, .int w3.2.1, .int w3.2.2, .ref mina, .int gv, .ref mrl, .ref mra, .int lns, .int ps, .int st, .int (bI tu)])), (oa, .inl (cZ, wd, .inl (fun jz => bI (of jz))))] s.heap.size = A at hD ⊢
  have hA : ∀ q : Nat, s.heap.size ≤ q → A q := fun q h => by rw [← hAe]; exact Or.inr h
  have hS : va_S A s.heap s.heap [] := va_S.rf
  have hP : va_P (dC, dI) classes [(mm, .inr (7, [.ref mwr, .ref mbr, .ref mwb, .ref mbb, .ref mbl, .ref mmo, .int th, .int (nI wd), .ref mli, .ref mab, .ref mou, .int bt, .int (bI cl), .int cd, .int c3.1, .int c3.2.1, .int c3.2.2, .ref mne, .int nx, .int w3.1, .int w3.2.1, .int w3.2.2, .ref mina, .int gv, .ref mrl, .ref mra, .int lns, .int ps, .int st, .int (bI tu)])), (oa, .inl (cZ, wd, .inl (fun jz => bI (of jz))))] s.heap := hP
  have hl := lv_entry ([.ref mm, .ref oa, .int pl, .int (bI bk)]) (n := 5) (Nat.le_of_ble_eq_true rfl)
  rw [lg_entry_eq]
  generalize (lg_sl ([.ref mm, .ref oa, .int pl, .int (bI bk)]) ++ List.replicate (5 - (lg_sl ([.ref mm, .ref oa, .int pl, .int (bI bk)])).length) Slot.unset).toArray = ls at hl ⊢
  have hl : lv_has ls 5 [(0, .ref mm), (1, .ref oa), (2, .int pl), (3, .int (bI bk))] := hl
  refine lv_iload_n hx hb d_Model_dotAfter_0 rfl (lv_at hl 2 rfl) ?_
  refine lv_iconst (v := 1) hx hb d_Model_dotAfter_1 (by decide) ?_
  refine lv_iadd hx hb d_Model_dotAfter_2 ?_
  refine lv_topi (fun x_1 ex_1 => ?_)
  replace ex_1 := ex_1.symm
  refine lv_istore (lv' := [(4, .int x_1), (0, .ref mm), (1, .ref oa), (2, .int pl), (3, .int (bI bk))]) hx hb d_Model_dotAfter_3 hl (by decide) rfl (fun ls hl => ?_)
  have hF9 : f_Model_dotAfter of wd pl bk = l_Model_dotAfter_5 of wd pl bk (((nI wd).toInt - Int32.toInt x_1).toNat + 1) x_1 := (by subst ex_1; exact (rfl))
  have hI9 : ¬ x_1 < 0 := (by subst ex_1; exact hpl)
  have hP9 := hP.sub (ws' := [(mm, .inr (7, [.ref mwr, .ref mbr, .ref mwb, .ref mbb, .ref mbl, .ref mmo, .int th, .int (nI wd), .ref mli, .ref mab, .ref mou, .int bt, .int (bI cl), .int cd, .int c3.1, .int c3.2.1, .int c3.2.2, .ref mne, .int nx, .int w3.1, .int w3.2.1, .int w3.2.2, .ref mina, .int gv, .ref mrl, .ref mra, .int lns, .int ps, .int st, .int (bI tu)])), (oa, .inl (cZ, wd, .inl (fun jz => bI (of jz))))]) [0, 1] rfl
  have hD9 := hD.sub (ws' := [(mm, .inr (7, [.ref mwr, .ref mbr, .ref mwb, .ref mbb, .ref mbl, .ref mmo, .int th, .int (nI wd), .ref mli, .ref mab, .ref mou, .int bt, .int (bI cl), .int cd, .int c3.1, .int c3.2.1, .int c3.2.2, .ref mne, .int nx, .int w3.1, .int w3.2.1, .int w3.2.2, .ref mina, .int gv, .ref mrl, .ref mra, .int lns, .int ps, .int st, .int (bI tu)])), (oa, .inl (cZ, wd, .inl (fun jz => bI (of jz))))]) [0, 1] (by decide) rfl
  have hl9 := lv_sub (l' := [(4, .int x_1), (0, .ref mm), (1, .ref oa), (2, .int pl), (3, .int (bI bk))]) hl [0, 1, 2, 3, 4] rfl
  refine lp_n (pc := 5) (σ := Int32) (I := fun nQ vQ H locs ls => ((nI wd).toInt - Int32.toInt vQ).toNat < nQ ∧ f_Model_dotAfter of wd pl bk = l_Model_dotAfter_5 of wd pl bk nQ vQ ∧ (¬ vQ < 0) ∧ va_P (dC, dI) classes [(mm, .inr (7, [.ref mwr, .ref mbr, .ref mwb, .ref mbb, .ref mbl, .ref mmo, .int th, .int (nI wd), .ref mli, .ref mab, .ref mou, .int bt, .int (bI cl), .int cd, .int c3.1, .int c3.2.1, .int c3.2.2, .ref mne, .int nx, .int w3.1, .int w3.2.1, .int w3.2.2, .ref mina, .int gv, .ref mrl, .ref mra, .int lns, .int ps, .int st, .int (bI tu)])), (oa, .inl (cZ, wd, .inl (fun jz => bI (of jz))))] H ∧ va_D A [(mm, .inr (7, [.ref mwr, .ref mbr, .ref mwb, .ref mbb, .ref mbl, .ref mmo, .int th, .int (nI wd), .ref mli, .ref mab, .ref mou, .int bt, .int (bI cl), .int cd, .int c3.1, .int c3.2.1, .int c3.2.2, .ref mne, .int nx, .int w3.1, .int w3.2.1, .int w3.2.2, .ref mina, .int gv, .ref mrl, .ref mra, .int lns, .int ps, .int st, .int (bI tu)])), (oa, .inl (cZ, wd, .inl (fun jz => bI (of jz))))] ∧ va_S A s.heap H locs ∧ lv_has ls 5 [(4, .int vQ), (0, .ref mm), (1, .ref oa), (2, .int pl), (3, .int (bI bk))]) (fun vQ H locs ls h => absurd h.1 (Nat.not_lt_zero _)) ?_ (((nI wd).toInt - Int32.toInt x_1).toNat + 1) x_1 _ _ _ ⟨Nat.lt_succ_self _, hF9, hI9, hP9, hD9, hS, hl9⟩
  intro n5 ih5 vQ H locs ls hI
  obtain ⟨x, rfl⟩ : ∃ z, z = vQ := ⟨_, rfl⟩
  obtain ⟨hmu5, hF5, hinv, hP, hD, hS, hl⟩ := hI
  have hinv : ¬ x < 0 := hinv
  have hmu5 : ((nI wd).toInt - Int32.toInt x).toNat < n5 + 1 := hmu5
  have hF5 : f_Model_dotAfter of wd pl bk = l_Model_dotAfter_5 of wd pl bk (n5 + 1) x := hF5
  have hinv : ¬ x < 0 := hinv
  have hP : va_P (dC, dI) classes [(mm, .inr (7, [.ref mwr, .ref mbr, .ref mwb, .ref mbb, .ref mbl, .ref mmo, .int th, .int (nI wd), .ref mli, .ref mab, .ref mou, .int bt, .int (bI cl), .int cd, .int c3.1, .int c3.2.1, .int c3.2.2, .ref mne, .int nx, .int w3.1, .int w3.2.1, .int w3.2.2, .ref mina, .int gv, .ref mrl, .ref mra, .int lns, .int ps, .int st, .int (bI tu)])), (oa, .inl (cZ, wd, .inl (fun jz => bI (of jz))))] H := hP
  have hD : va_D A [(mm, .inr (7, [.ref mwr, .ref mbr, .ref mwb, .ref mbb, .ref mbl, .ref mmo, .int th, .int (nI wd), .ref mli, .ref mab, .ref mou, .int bt, .int (bI cl), .int cd, .int c3.1, .int c3.2.1, .int c3.2.2, .ref mne, .int nx, .int w3.1, .int w3.2.1, .int w3.2.2, .ref mina, .int gv, .ref mrl, .ref mra, .int lns, .int ps, .int st, .int (bI tu)])), (oa, .inl (cZ, wd, .inl (fun jz => bI (of jz))))] := hD
  have hl : lv_has ls 5 [(4, .int x), (0, .ref mm), (1, .ref oa), (2, .int pl), (3, .int (bI bk))] := hl
  refine lv_iload hx hb d_Model_dotAfter_5 (lv_at hl 0 rfl) ?_
  refine lv_aload_n hx hb d_Model_dotAfter_7 rfl (lv_at hl 1 rfl) ?_
  refine va_get (D := (dC, dI)) (ci := 7) (v := .int (nI wd)) (C := R_Model) (T := F_Model) (N := 30) hx hb hw i_Model hown hK hP 0 rfl rfl 7 (by decide) (hw _ m_671) (fun _ h9 => h9) rfl d_Model_dotAfter_8 ?_
  refine lv_icmp_ge (tgt := 41) hx hb d_Model_dotAfter_11 (by decide) (fun c_2 => ?_) (fun c_2 => ?_)
  · refine lv_iload hx hb d_Model_dotAfter_41 (lv_at hl 0 rfl) ?_
    refine lv_aload_n hx hb d_Model_dotAfter_43 rfl (lv_at hl 1 rfl) ?_
    refine va_get (D := (dC, dI)) (ci := 7) (v := .int (nI wd)) (C := R_Model) (T := F_Model) (N := 30) hx hb hw i_Model hown hK hP 0 rfl rfl 7 (by decide) (hw _ m_671) (fun _ h9 => h9) rfl d_Model_dotAfter_44 ?_
    refine lv_icmp_ge (tgt := 55) hx hb d_Model_dotAfter_47 (by decide) (fun c_3 => ?_) (fun c_3 => ?_)
    · refine lv_aload_n hx hb d_Model_dotAfter_55 rfl (lv_at hl 1 rfl) ?_
      refine va_get (D := (dC, dI)) (ci := 7) (v := .int (nI wd)) (C := R_Model) (T := F_Model) (N := 30) hx hb hw i_Model hown hK hP 0 rfl rfl 7 (by decide) (hw _ m_671) (fun _ h9 => h9) rfl d_Model_dotAfter_56 ?_
      have hP9 := hP.sub (ws' := [(mm, .inr (7, [.ref mwr, .ref mbr, .ref mwb, .ref mbb, .ref mbl, .ref mmo, .int th, .int (nI wd), .ref mli, .ref mab, .ref mou, .int bt, .int (bI cl), .int cd, .int c3.1, .int c3.2.1, .int c3.2.2, .ref mne, .int nx, .int w3.1, .int w3.2.1, .int w3.2.2, .ref mina, .int gv, .ref mrl, .ref mra, .int lns, .int ps, .int st, .int (bI tu)])), (oa, .inl (cZ, wd, .inl (fun jz => bI (of jz))))]) [0, 1] rfl
      have hD9 := hD.sub (ws' := [(mm, .inr (7, [.ref mwr, .ref mbr, .ref mwb, .ref mbb, .ref mbl, .ref mmo, .int th, .int (nI wd), .ref mli, .ref mab, .ref mou, .int bt, .int (bI cl), .int cd, .int c3.1, .int c3.2.1, .int c3.2.2, .ref mne, .int nx, .int w3.1, .int w3.2.1, .int w3.2.2, .ref mina, .int gv, .ref mrl, .ref mra, .int lns, .int ps, .int st, .int (bI tu)])), (oa, .inl (cZ, wd, .inl (fun jz => bI (of jz))))]) [0, 1] (by decide) rfl
      have hK9 := hK
      exact W.iret (v := nI wd) hx hb hr (fun t ht hW => ⟨⟨nI wd, (), rfl, (by have h9 : f_Model_dotAfter of wd pl bk = nI wd := (by exact (hF5.trans ((if_pos c_2).trans (rfl)))); exact h9.symm), ⟨by rw [ht]; exact hP9, va_K.moved hW.alike hK9, hD9⟩⟩, hS.F ht⟩) hS.2.2 d_Model_dotAfter_59
    · exact absurd c_3 (by first | decide | assumption | exact not_not_intro (by assumption))
  · refine lv_aload_n hx hb d_Model_dotAfter_14 rfl (lv_at hl 2 rfl) ?_
    refine lv_iload hx hb d_Model_dotAfter_15 (lv_at hl 0 rfl) ?_
    refine lv_aload_n hx hb d_Model_dotAfter_17 rfl (lv_at hl 1 rfl) ?_
    refine va_get (D := (dC, dI)) (ci := 7) (v := .int (nI wd)) (C := R_Model) (T := F_Model) (N := 30) hx hb hw i_Model hown hK hP 0 rfl rfl 7 (by decide) (hw _ m_671) (fun _ h9 => h9) rfl d_Model_dotAfter_18 ?_
    refine lv_icmp_ge (tgt := 29) hx hb d_Model_dotAfter_21 (by decide) (fun c_4 => ?_) (fun c_4 => ?_)
    · exact absurd c_4 (by first | decide | assumption | exact not_not_intro (by assumption))
    · refine lv_iload hx hb d_Model_dotAfter_24 (lv_at hl 0 rfl) ?_
      refine lv_goto (tgt := 30) hx hb d_Model_dotAfter_26 (by decide) ?_
      refine va_zald hx hb hK hP 1 1 rfl rfl (ix_b (by omega) hinv c_2) d_Model_dotAfter_30 ?_
      refine lv_iload_n hx hb d_Model_dotAfter_31 rfl (lv_at hl 4 rfl) ?_
      refine lv_icmp_eq (tgt := 41) hx hb d_Model_dotAfter_32 (by decide) (fun c_5 => ?_) (fun c_5 => ?_)
      · refine lv_iload hx hb d_Model_dotAfter_41 (lv_at hl 0 rfl) ?_
        refine lv_aload_n hx hb d_Model_dotAfter_43 rfl (lv_at hl 1 rfl) ?_
        refine va_get (D := (dC, dI)) (ci := 7) (v := .int (nI wd)) (C := R_Model) (T := F_Model) (N := 30) hx hb hw i_Model hown hK hP 0 rfl rfl 7 (by decide) (hw _ m_671) (fun _ h9 => h9) rfl d_Model_dotAfter_44 ?_
        refine lv_icmp_ge (tgt := 55) hx hb d_Model_dotAfter_47 (by decide) (fun c_6 => ?_) (fun c_6 => ?_)
        · exact absurd c_6 (by first | decide | assumption | exact not_not_intro (by assumption))
        · refine lv_iload hx hb d_Model_dotAfter_50 (lv_at hl 0 rfl) ?_
          refine lv_goto (tgt := 59) hx hb d_Model_dotAfter_52 (by decide) ?_
          have hP9 := hP.sub (ws' := [(mm, .inr (7, [.ref mwr, .ref mbr, .ref mwb, .ref mbb, .ref mbl, .ref mmo, .int th, .int (nI wd), .ref mli, .ref mab, .ref mou, .int bt, .int (bI cl), .int cd, .int c3.1, .int c3.2.1, .int c3.2.2, .ref mne, .int nx, .int w3.1, .int w3.2.1, .int w3.2.2, .ref mina, .int gv, .ref mrl, .ref mra, .int lns, .int ps, .int st, .int (bI tu)])), (oa, .inl (cZ, wd, .inl (fun jz => bI (of jz))))]) [0, 1] rfl
          have hD9 := hD.sub (ws' := [(mm, .inr (7, [.ref mwr, .ref mbr, .ref mwb, .ref mbb, .ref mbl, .ref mmo, .int th, .int (nI wd), .ref mli, .ref mab, .ref mou, .int bt, .int (bI cl), .int cd, .int c3.1, .int c3.2.1, .int c3.2.2, .ref mne, .int nx, .int w3.1, .int w3.2.1, .int w3.2.2, .ref mina, .int gv, .ref mrl, .ref mra, .int lns, .int ps, .int st, .int (bI tu)])), (oa, .inl (cZ, wd, .inl (fun jz => bI (of jz))))]) [0, 1] (by decide) rfl
          have hK9 := hK
          exact W.iret (v := x) hx hb hr (fun t ht hW => ⟨⟨x, (), rfl, (by have h9 : f_Model_dotAfter of wd pl bk = x := (by exact (hF5.trans ((if_neg c_2).trans ((if_pos c_5).trans (rfl))))); exact h9.symm), ⟨by rw [ht]; exact hP9, va_K.moved hW.alike hK9, hD9⟩⟩, hS.F ht⟩) hS.2.2 d_Model_dotAfter_59
      · obtain ⟨x_7, ex_7⟩ : ∃ y : Int32, y = x + 1 := ⟨_, rfl⟩
        refine lv_iinc (v := x_7) (lv' := [(4, .int x_7), (0, .ref mm), (1, .ref oa), (2, .int pl), (3, .int (bI bk))]) hx hb d_Model_dotAfter_35 hl (k := 0) rfl (by rw [ex_7]; rfl) (by decide) rfl (fun ls hl => ?_)
        replace ex_7 := ex_7.symm
        refine lv_goto (tgt := 5) hx hb d_Model_dotAfter_38 (by decide) ?_
        have hF9 : f_Model_dotAfter of wd pl bk = l_Model_dotAfter_5 of wd pl bk n5 x_7 := (by subst ex_7; exact (hF5.trans ((if_neg c_2).trans ((if_neg c_5).trans (rfl)))))
        have hI9 : ¬ x_7 < 0 := (by subst ex_7; exact nn_s (by omega) hinv c_2)
        have hP9 := hP.sub (ws' := [(mm, .inr (7, [.ref mwr, .ref mbr, .ref mwb, .ref mbb, .ref mbl, .ref mmo, .int th, .int (nI wd), .ref mli, .ref mab, .ref mou, .int bt, .int (bI cl), .int cd, .int c3.1, .int c3.2.1, .int c3.2.2, .ref mne, .int nx, .int w3.1, .int w3.2.1, .int w3.2.2, .ref mina, .int gv, .ref mrl, .ref mra, .int lns, .int ps, .int st, .int (bI tu)])), (oa, .inl (cZ, wd, .inl (fun jz => bI (of jz))))]) [0, 1] rfl
        have hD9 := hD.sub (ws' := [(mm, .inr (7, [.ref mwr, .ref mbr, .ref mwb, .ref mbb, .ref mbl, .ref mmo, .int th, .int (nI wd), .ref mli, .ref mab, .ref mou, .int bt, .int (bI cl), .int cd, .int c3.1, .int c3.2.1, .int c3.2.2, .ref mne, .int nx, .int w3.1, .int w3.2.1, .int w3.2.2, .ref mina, .int gv, .ref mrl, .ref mra, .int lns, .int ps, .int st, .int (bI tu)])), (oa, .inl (cZ, wd, .inl (fun jz => bI (of jz))))]) [0, 1] (by decide) rfl
        have hl9 := lv_sub (l' := [(4, .int x_7), (0, .ref mm), (1, .ref oa), (2, .int pl), (3, .int (bI bk))]) hl [0, 1, 2, 3, 4] rfl
        have hm9 : ((nI wd).toInt - Int32.toInt x_7).toNat < ((nI wd).toInt - Int32.toInt x).toNat := (by subst ex_7; exact mu_b c_2)
        exact ih5 x_7 _ _ _ ⟨Nat.lt_of_lt_of_le hm9 (Nat.le_of_lt_succ hmu5), hF9, hI9, hP9, hD9, hS, hl9⟩
def l_Model_changeAfter_5 (of : Nat → Bool) (wd : Nat) (pl : Int32) (bk : Bool) : Nat → Int32 → Int32
  | 0, _ => default
  | n5 + 1, x => if (nI wd) ≤ x then (nI wd) else (if x ≤ 0 then (if (bI (of x.toNatClampNeg)) = 0 then (let x_5 := x + 1; l_Model_changeAfter_5 of wd pl bk n5 x_5) else (if (bI (of x.toNatClampNeg)) = (bI bk) then (x) else (let x_7 := x + 1; l_Model_changeAfter_5 of wd pl bk n5 x_7))) else (if (bI (of (x - 1).toNatClampNeg)) = 0 then (if (bI (of x.toNatClampNeg)) = 0 then (let x_11 := x + 1; l_Model_changeAfter_5 of wd pl bk n5 x_11) else (if (bI (of x.toNatClampNeg)) = (bI bk) then (x) else (let x_13 := x + 1; l_Model_changeAfter_5 of wd pl bk n5 x_13))) else (if (bI (of x.toNatClampNeg)) = 1 then (let x_15 := x + 1; l_Model_changeAfter_5 of wd pl bk n5 x_15) else (if (bI (of x.toNatClampNeg)) = (bI bk) then (x) else (let x_17 := x + 1; l_Model_changeAfter_5 of wd pl bk n5 x_17)))))
def f_Model_changeAfter (of : Nat → Bool) (wd : Nat) (pl : Int32) (bk : Bool) : Int32 := let x_1 := pl + 1; l_Model_changeAfter_5 of wd pl bk (((nI wd).toInt - Int32.toInt x_1).toNat + 1) x_1
set_option maxHeartbeats 4000000 in
set_option maxRecDepth 100000 in
theorem c_Model_changeAfter (l : Launch) (dC : Nat → ClassId) (dI : Nat → Nat → Nat) (cI cZ : ClassId) (mm : Nat) (mwr : Nat) (mbr : Nat) (mwb : Nat) (mbb : Nat) (mbl : Nat) (mmo : Nat) (mli : Nat) (mab : Nat) (mou : Nat) (mne : Nat) (mina : Nat) (mrl : Nat) (mra : Nat) (oa : Nat) (of : Nat → Bool) (wd : Nat) (th : Int32) (bt : Int32) (cl : Bool) (cd : Int32) (c3 : Int32 × Int32 × Int32) (nx : Int32) (w3 : Int32 × Int32 × Int32) (gv : Int32) (lns : Int32) (ps : Int32) (st : Int32) (tu : Bool) (sz : Nat)  (pl : Int32) (bk : Bool) (hwd : wd ≤ 10000) (hpl : ¬ (pl + 1) < 0) : Met l y_Model_changeAfter w_Model_changeAfter ({ frames := 0, cells := 0, slots := 0, locals := 0 }) (va_Pc [.ref mm, .ref oa, .int pl, .int (bI bk)] (fun U => U.heap.size = sz ∧ va_P (dC, dI) classes [(mm, .inr (7, [.ref mwr, .ref mbr, .ref mwb, .ref mbb, .ref mbl, .ref mmo, .int th, .int (nI wd), .ref mli, .ref mab, .ref mou, .int bt, .int (bI cl), .int cd, .int c3.1, .int c3.2.1, .int c3.2.2, .ref mne, .int nx, .int w3.1, .int w3.2.1, .int w3.2.2, .ref mina, .int gv, .ref mrl, .ref mra, .int lns, .int ps, .int st, .int (bI tu)])), (oa, .inl (cZ, wd, .inl (fun jz => bI (of jz))))] U.heap ∧ va_K (dC, dI) classes [(cI, .int), (cZ, .boolean)] U ∧ va_D (fun _ => True) [(mm, .inr (7, [.ref mwr, .ref mbr, .ref mwb, .ref mbb, .ref mbl, .ref mmo, .int th, .int (nI wd), .ref mli, .ref mab, .ref mou, .int bt, .int (bI cl), .int cd, .int c3.1, .int c3.2.1, .int c3.2.2, .ref mne, .int nx, .int w3.1, .int w3.2.1, .int w3.2.2, .ref mina, .int gv, .ref mrl, .ref mra, .int lns, .int ps, .int st, .int (bI tu)])), (oa, .inl (cZ, wd, .inl (fun jz => bI (of jz))))])) (va_Qi (fun (r : Int32) (u : Unit) => r = f_Model_changeAfter of wd pl bk) (fun (u : Unit) (t : State) => va_P (dC, dI) classes [(mm, .inr (7, [.ref mwr, .ref mbr, .ref mwb, .ref mbb, .ref mbl, .ref mmo, .int th, .int (nI wd), .ref mli, .ref mab, .ref mou, .int bt, .int (bI cl), .int cd, .int c3.1, .int c3.2.1, .int c3.2.2, .ref mne, .int nx, .int w3.1, .int w3.2.1, .int w3.2.2, .ref mina, .int gv, .ref mrl, .ref mra, .int lns, .int ps, .int st, .int (bI tu)])), (oa, .inl (cZ, wd, .inl (fun jz => bI (of jz))))] t.heap ∧ va_K (dC, dI) classes [(cI, .int), (cZ, .boolean)] t ∧ va_D (va_A [(mm, .inr (7, [.ref mwr, .ref mbr, .ref mwb, .ref mbb, .ref mbl, .ref mmo, .int th, .int (nI wd), .ref mli, .ref mab, .ref mou, .int bt, .int (bI cl), .int cd, .int c3.1, .int c3.2.1, .int c3.2.2, .ref mne, .int nx, .int w3.1, .int w3.2.1, .int w3.2.2, .ref mina, .int gv, .ref mrl, .ref mra, .int lns, .int ps, .int st, .int (bI tu)])), (oa, .inl (cZ, wd, .inl (fun jz => bI (of jz))))] sz) [(mm, .inr (7, [.ref mwr, .ref mbr, .ref mwb, .ref mbb, .ref mbl, .ref mmo, .int th, .int (nI wd), .ref mli, .ref mab, .ref mou, .int bt, .int (bI cl), .int cd, .int c3.1, .int c3.2.1, .int c3.2.2, .ref mne, .int nx, .int w3.1, .int w3.2.1, .int w3.2.2, .ref mina, .int gv, .ref mrl, .ref mra, .int lns, .int ps, .int st, .int (bI tu)])), (oa, .inl (cZ, wd, .inl (fun jz => bI (of jz))))]) (va_A [(mm, .inr (7, [.ref mwr, .ref mbr, .ref mwb, .ref mbb, .ref mbl, .ref mmo, .int th, .int (nI wd), .ref mli, .ref mab, .ref mou, .int bt, .int (bI cl), .int cd, .int c3.1, .int c3.2.1, .int c3.2.2, .ref mne, .int nx, .int w3.1, .int w3.2.1, .int w3.2.2, .ref mina, .int gv, .ref mrl, .ref mra, .int lns, .int ps, .int st, .int (bI tu)])), (oa, .inl (cZ, wd, .inl (fun jz => bI (of jz))))] sz)) 0 0 (va_A [(mm, .inr (7, [.ref mwr, .ref mbr, .ref mwb, .ref mbb, .ref mbl, .ref mmo, .int th, .int (nI wd), .ref mli, .ref mab, .ref mou, .int bt, .int (bI cl), .int cd, .int c3.1, .int c3.2.1, .int c3.2.2, .ref mne, .int nx, .int w3.1, .int w3.2.1, .int w3.2.2, .ref mina, .int gv, .ref mrl, .ref mra, .int lns, .int ps, .int st, .int (bI tu)])), (oa, .inl (cZ, wd, .inl (fun jz => bI (of jz))))] sz) := by
  refine Met.ofW (cc := b_Model_changeAfter) (maxL := 6) (ret := (some .int)) (by decide) rfl ?_
  intro p e s m args below meth c s₁ B hml hv
  obtain ⟨rfl, hsz, hP, hK, hD0⟩ := hv
  have hx := B.exec
  have hb := B.bytes
  have hr := B.returns
  have hts := atoms_spec (ws := w_Model_changeAfter) B.pre
  have hw : ∀ w ∈ WA, w.before _ s = true := fun w h => hts w (List.mem_cons_of_mem _ h)
  have hown : s.vm.findClass R_Model = some m.cls := findClass_of_methodNamed B.named
  have hlocks := B.notSynchronized
  subst hsz
  have hD := hD0.self (sz := s.heap.size)
  generalize hAe : va_A [(mm, .inr (7, [.ref mwr, .ref mbr, .ref mwb, .ref mbb, .ref mbl, .ref mmo, .int th, .int (nI wd), .ref mli, .ref mab, .ref mou, .int bt, .int (bI cl), .int cd, .int c3.1, .int c3.2.1, .int c3.2.2, .ref mne, .int nx, .int w3.1, .int w3.2.1, .int w3.2.2, .ref mina, .int gv, .ref mrl, .ref mra, .int lns, .int ps, .int st, .int (bI tu)])), (oa, .inl (cZ, wd, .inl (fun jz => bI (of jz))))] s.heap.size = A at hD ⊢
  have hA : ∀ q : Nat, s.heap.size ≤ q → A q := fun q h => by rw [← hAe]; exact Or.inr h
  have hS : va_S A s.heap s.heap [] := va_S.rf
  have hP : va_P (dC, dI) classes [(mm, .inr (7, [.ref mwr, .ref mbr, .ref mwb, .ref mbb, .ref mbl, .ref mmo, .int th, .int (nI wd), .ref mli, .ref mab, .ref mou, .int bt, .int (bI cl), .int cd, .int c3.1, .int c3.2.1, .int c3.2.2, .ref mne, .int nx, .int w3.1, .int w3.2.1, .int w3.2.2, .ref mina, .int gv, .ref mrl, .ref mra, .int lns, .int ps, .int st, .int (bI tu)])), (oa, .inl (cZ, wd, .inl (fun jz => bI (of jz))))] s.heap := hP
  have hl := lv_entry ([.ref mm, .ref oa, .int pl, .int (bI bk)]) (n := 6) (Nat.le_of_ble_eq_true rfl)
  rw [lg_entry_eq]
  generalize (lg_sl ([.ref mm, .ref oa, .int pl, .int (bI bk)]) ++ List.replicate (6 - (lg_sl ([.ref mm, .ref oa, .int pl, .int (bI bk)])).length) Slot.unset).toArray = ls at hl ⊢
  have hl : lv_has ls 6 [(0, .ref mm), (1, .ref oa), (2, .int pl), (3, .int (bI bk))] := hl
  refine lv_iload_n hx hb d_Model_changeAfter_0 rfl (lv_at hl 2 rfl) ?_
  refine lv_iconst (v := 1) hx hb d_Model_changeAfter_1 (by decide) ?_
  refine lv_iadd hx hb d_Model_changeAfter_2 ?_
  refine lv_topi (fun x_1 ex_1 => ?_)
  replace ex_1 := ex_1.symm
  refine lv_istore (lv' := [(4, .int x_1), (0, .ref mm), (1, .ref oa), (2, .int pl), (3, .int (bI bk))]) hx hb d_Model_changeAfter_3 hl (by decide) rfl (fun ls hl => ?_)
  have hF9 : f_Model_changeAfter of wd pl bk = l_Model_changeAfter_5 of wd pl bk (((nI wd).toInt - Int32.toInt x_1).toNat + 1) x_1 := (by subst ex_1; exact (rfl))
  have hI9 : ¬ x_1 < 0 := (by subst ex_1; exact hpl)
  have hP9 := hP.sub (ws' := [(mm, .inr (7, [.ref mwr, .ref mbr, .ref mwb, .ref mbb, .ref mbl, .ref mmo, .int th, .int (nI wd), .ref mli, .ref mab, .ref mou, .int bt, .int (bI cl), .int cd, .int c3.1, .int c3.2.1, .int c3.2.2, .ref mne, .int nx, .int w3.1, .int w3.2.1, .int w3.2.2, .ref mina, .int gv, .ref mrl, .ref mra, .int lns, .int ps, .int st, .int (bI tu)])), (oa, .inl (cZ, wd, .inl (fun jz => bI (of jz))))]) [0, 1] rfl
  have hD9 := hD.sub (ws' := [(mm, .inr (7, [.ref mwr, .ref mbr, .ref mwb, .ref mbb, .ref mbl, .ref mmo, .int th, .int (nI wd), .ref mli, .ref mab, .ref mou, .int bt, .int (bI cl), .int cd, .int c3.1, .int c3.2.1, .int c3.2.2, .ref mne, .int nx, .int w3.1, .int w3.2.1, .int w3.2.2, .ref mina, .int gv, .ref mrl, .ref mra, .int lns, .int ps, .int st, .int (bI tu)])), (oa, .inl (cZ, wd, .inl (fun jz => bI (of jz))))]) [0, 1] (by decide) rfl
  have hl9 := lv_sub (l' := [(4, .int x_1), (0, .ref mm), (1, .ref oa), (2, .int pl), (3, .int (bI bk))]) hl [0, 1, 2, 3, 4] rfl
  refine lp_n (pc := 5) (σ := Int32) (I := fun nQ vQ H locs ls => ((nI wd).toInt - Int32.toInt vQ).toNat < nQ ∧ f_Model_changeAfter of wd pl bk = l_Model_changeAfter_5 of wd pl bk nQ vQ ∧ (¬ vQ < 0) ∧ va_P (dC, dI) classes [(mm, .inr (7, [.ref mwr, .ref mbr, .ref mwb, .ref mbb, .ref mbl, .ref mmo, .int th, .int (nI wd), .ref mli, .ref mab, .ref mou, .int bt, .int (bI cl), .int cd, .int c3.1, .int c3.2.1, .int c3.2.2, .ref mne, .int nx, .int w3.1, .int w3.2.1, .int w3.2.2, .ref mina, .int gv, .ref mrl, .ref mra, .int lns, .int ps, .int st, .int (bI tu)])), (oa, .inl (cZ, wd, .inl (fun jz => bI (of jz))))] H ∧ va_D A [(mm, .inr (7, [.ref mwr, .ref mbr, .ref mwb, .ref mbb, .ref mbl, .ref mmo, .int th, .int (nI wd), .ref mli, .ref mab, .ref mou, .int bt, .int (bI cl), .int cd, .int c3.1, .int c3.2.1, .int c3.2.2, .ref mne, .int nx, .int w3.1, .int w3.2.1, .int w3.2.2, .ref mina, .int gv, .ref mrl, .ref mra, .int lns, .int ps, .int st, .int (bI tu)])), (oa, .inl (cZ, wd, .inl (fun jz => bI (of jz))))] ∧ va_S A s.heap H locs ∧ lv_has ls 6 [(4, .int vQ), (0, .ref mm), (1, .ref oa), (2, .int pl), (3, .int (bI bk))]) (fun vQ H locs ls h => absurd h.1 (Nat.not_lt_zero _)) ?_ (((nI wd).toInt - Int32.toInt x_1).toNat + 1) x_1 _ _ _ ⟨Nat.lt_succ_self _, hF9, hI9, hP9, hD9, hS, hl9⟩
  intro n5 ih5 vQ H locs ls hI
  obtain ⟨x, rfl⟩ : ∃ z, z = vQ := ⟨_, rfl⟩
  obtain ⟨hmu5, hF5, hinv, hP, hD, hS, hl⟩ := hI
  have hinv : ¬ x < 0 := hinv
  have hmu5 : ((nI wd).toInt - Int32.toInt x).toNat < n5 + 1 := hmu5
  have hF5 : f_Model_changeAfter of wd pl bk = l_Model_changeAfter_5 of wd pl bk (n5 + 1) x := hF5
  have hinv : ¬ x < 0 := hinv
  have hP : va_P (dC, dI) classes [(mm, .inr (7, [.ref mwr, .ref mbr, .ref mwb, .ref mbb, .ref mbl, .ref mmo, .int th, .int (nI wd), .ref mli, .ref mab, .ref mou, .int bt, .int (bI cl), .int cd, .int c3.1, .int c3.2.1, .int c3.2.2, .ref mne, .int nx, .int w3.1, .int w3.2.1, .int w3.2.2, .ref mina, .int gv, .ref mrl, .ref mra, .int lns, .int ps, .int st, .int (bI tu)])), (oa, .inl (cZ, wd, .inl (fun jz => bI (of jz))))] H := hP
  have hD : va_D A [(mm, .inr (7, [.ref mwr, .ref mbr, .ref mwb, .ref mbb, .ref mbl, .ref mmo, .int th, .int (nI wd), .ref mli, .ref mab, .ref mou, .int bt, .int (bI cl), .int cd, .int c3.1, .int c3.2.1, .int c3.2.2, .ref mne, .int nx, .int w3.1, .int w3.2.1, .int w3.2.2, .ref mina, .int gv, .ref mrl, .ref mra, .int lns, .int ps, .int st, .int (bI tu)])), (oa, .inl (cZ, wd, .inl (fun jz => bI (of jz))))] := hD
  have hl : lv_has ls 6 [(4, .int x), (0, .ref mm), (1, .ref oa), (2, .int pl), (3, .int (bI bk))] := hl
  refine lv_iload hx hb d_Model_changeAfter_5 (lv_at hl 0 rfl) ?_
  refine lv_aload_n hx hb d_Model_changeAfter_7 rfl (lv_at hl 1 rfl) ?_
  refine va_get (D := (dC, dI)) (ci := 7) (v := .int (nI wd)) (C := R_Model) (T := F_Model) (N := 30) hx hb hw i_Model hown hK hP 0 rfl rfl 7 (by decide) (hw _ m_671) (fun _ h9 => h9) rfl d_Model_changeAfter_8 ?_
  refine lv_icmp_ge (tgt := 70) hx hb d_Model_changeAfter_11 (by decide) (fun c_2 => ?_) (fun c_2 => ?_)
  · refine lv_aload_n hx hb d_Model_changeAfter_70 rfl (lv_at hl 1 rfl) ?_
    refine va_get (D := (dC, dI)) (ci := 7) (v := .int (nI wd)) (C := R_Model) (T := F_Model) (N := 30) hx hb hw i_Model hown hK hP 0 rfl rfl 7 (by decide) (hw _ m_671) (fun _ h9 => h9) rfl d_Model_changeAfter_71 ?_
    have hP9 := hP.sub (ws' := [(mm, .inr (7, [.ref mwr, .ref mbr, .ref mwb, .ref mbb, .ref mbl, .ref mmo, .int th, .int (nI wd), .ref mli, .ref mab, .ref mou, .int bt, .int (bI cl), .int cd, .int c3.1, .int c3.2.1, .int c3.2.2, .ref mne, .int nx, .int w3.1, .int w3.2.1, .int w3.2.2, .ref mina, .int gv, .ref mrl, .ref mra, .int lns, .int ps, .int st, .int (bI tu)])), (oa, .inl (cZ, wd, .inl (fun jz => bI (of jz))))]) [0, 1] rfl
    have hD9 := hD.sub (ws' := [(mm, .inr (7, [.ref mwr, .ref mbr, .ref mwb, .ref mbb, .ref mbl, .ref mmo, .int th, .int (nI wd), .ref mli, .ref mab, .ref mou, .int bt, .int (bI cl), .int cd, .int c3.1, .int c3.2.1, .int c3.2.2, .ref mne, .int nx, .int w3.1, .int w3.2.1, .int w3.2.2, .ref mina, .int gv, .ref mrl, .ref mra, .int lns, .int ps, .int st, .int (bI tu)])), (oa, .inl (cZ, wd, .inl (fun jz => bI (of jz))))]) [0, 1] (by decide) rfl
    have hK9 := hK
    exact W.iret (v := nI wd) hx hb hr (fun t ht hW => ⟨⟨nI wd, (), rfl, (by have h9 : f_Model_changeAfter of wd pl bk = nI wd := (by exact (hF5.trans ((if_pos c_2).trans (rfl)))); exact h9.symm), ⟨by rw [ht]; exact hP9, va_K.moved hW.alike hK9, hD9⟩⟩, hS.F ht⟩) hS.2.2 d_Model_changeAfter_74
  · refine lv_iload hx hb d_Model_changeAfter_14 (lv_at hl 0 rfl) ?_
    refine lv_if_le (tgt := 41) hx hb d_Model_changeAfter_16 (by decide) (fun c_3 => ?_) (fun c_3 => ?_)
    · refine lv_iconst (v := 0) hx hb d_Model_changeAfter_41 (by decide) ?_
      refine lv_istore (lv' := [(5, .int 0), (4, .int x), (0, .ref mm), (1, .ref oa), (2, .int pl), (3, .int (bI bk))]) hx hb d_Model_changeAfter_42 hl (by decide) rfl (fun ls hl => ?_)
      refine lv_aload_n hx hb d_Model_changeAfter_44 rfl (lv_at hl 3 rfl) ?_
      refine lv_iload hx hb d_Model_changeAfter_45 (lv_at hl 1 rfl) ?_
      refine va_zald hx hb hK hP 1 1 rfl rfl (ix_b (by omega) hinv c_2) d_Model_changeAfter_47 ?_
      refine lv_iload hx hb d_Model_changeAfter_48 (lv_at hl 0 rfl) ?_
      refine lv_icmp_eq (tgt := 64) hx hb d_Model_changeAfter_50 (by decide) (fun c_4 => ?_) (fun c_4 => ?_)
      · obtain ⟨x_5, ex_5⟩ : ∃ y : Int32, y = x + 1 := ⟨_, rfl⟩
        refine lv_iinc (v := x_5) (lv' := [(4, .int x_5), (5, .int 0), (0, .ref mm), (1, .ref oa), (2, .int pl), (3, .int (bI bk))]) hx hb d_Model_changeAfter_64 hl (k := 1) rfl (by rw [ex_5]; rfl) (by decide) rfl (fun ls hl => ?_)
        replace ex_5 := ex_5.symm
        refine lv_goto (tgt := 5) hx hb d_Model_changeAfter_67 (by decide) ?_
        have hF9 : f_Model_changeAfter of wd pl bk = l_Model_changeAfter_5 of wd pl bk n5 x_5 := (by subst ex_5; exact (hF5.trans ((if_neg c_2).trans ((if_pos c_3).trans ((if_pos c_4).trans (rfl))))))
        have hI9 : ¬ x_5 < 0 := (by subst ex_5; exact nn_s (by omega) hinv c_2)
        have hP9 := hP.sub (ws' := [(mm, .inr (7, [.ref mwr, .ref mbr, .ref mwb, .ref mbb, .ref mbl, .ref mmo, .int th, .int (nI wd), .ref mli, .ref mab, .ref mou, .int bt, .int (bI cl), .int cd, .int c3.1, .int c3.2.1, .int c3.2.2, .ref mne, .int nx, .int w3.1, .int w3.2.1, .int w3.2.2, .ref mina, .int gv, .ref mrl, .ref mra, .int lns, .int ps, .int st, .int (bI tu)])), (oa, .inl (cZ, wd, .inl (fun jz => bI (of jz))))]) [0, 1] rfl
        have hD9 := hD.sub (ws' := [(mm, .inr (7, [.ref mwr, .ref mbr, .ref mwb, .ref mbb, .ref mbl, .ref mmo, .int th, .int (nI wd), .ref mli, .ref mab, .ref mou, .int bt, .int (bI cl), .int cd, .int c3.1, .int c3.2.1, .int c3.2.2, .ref mne, .int nx, .int w3.1, .int w3.2.1, .int w3.2.2, .ref mina, .int gv, .ref mrl, .ref mra, .int lns, .int ps, .int st, .int (bI tu)])), (oa, .inl (cZ, wd, .inl (fun jz => bI (of jz))))]) [0, 1] (by decide) rfl
        have hl9 := lv_sub (l' := [(4, .int x_5), (0, .ref mm), (1, .ref oa), (2, .int pl), (3, .int (bI bk))]) hl [0, 2, 3, 4, 5] rfl
        have hm9 : ((nI wd).toInt - Int32.toInt x_5).toNat < ((nI wd).toInt - Int32.toInt x).toNat := (by subst ex_5; exact mu_b c_2)
        exact ih5 x_5 _ _ _ ⟨Nat.lt_of_lt_of_le hm9 (Nat.le_of_lt_succ hmu5), hF9, hI9, hP9, hD9, hS, hl9⟩
      · refine lv_aload_n hx hb d_Model_changeAfter_53 rfl (lv_at hl 3 rfl) ?_
        refine lv_iload hx hb d_Model_changeAfter_54 (lv_at hl 1 rfl) ?_
        refine va_zald hx hb hK hP 1 1 rfl rfl (ix_b (by omega) hinv c_2) d_Model_changeAfter_56 ?_
        refine lv_iload_n hx hb d_Model_changeAfter_57 rfl (lv_at hl 5 rfl) ?_
        refine lv_icmp_ne (tgt := 64) hx hb d_Model_changeAfter_58 (by decide) (fun c_6 => ?_) (fun c_6 => ?_)
        · obtain ⟨x_7, ex_7⟩ : ∃ y : Int32, y = x + 1 := ⟨_, rfl⟩
          refine lv_iinc (v := x_7) (lv' := [(4, .int x_7), (5, .int 0), (0, .ref mm), (1, .ref oa), (2, .int pl), (3, .int (bI bk))]) hx hb d_Model_changeAfter_64 hl (k := 1) rfl (by rw [ex_7]; rfl) (by decide) rfl (fun ls hl => ?_)
          replace ex_7 := ex_7.symm
          refine lv_goto (tgt := 5) hx hb d_Model_changeAfter_67 (by decide) ?_
          have hF9 : f_Model_changeAfter of wd pl bk = l_Model_changeAfter_5 of wd pl bk n5 x_7 := (by subst ex_7; exact (hF5.trans ((if_neg c_2).trans ((if_pos c_3).trans ((if_neg c_4).trans ((if_neg c_6).trans (rfl)))))))
          have hI9 : ¬ x_7 < 0 := (by subst ex_7; exact nn_s (by omega) hinv c_2)
          have hP9 := hP.sub (ws' := [(mm, .inr (7, [.ref mwr, .ref mbr, .ref mwb, .ref mbb, .ref mbl, .ref mmo, .int th, .int (nI wd), .ref mli, .ref mab, .ref mou, .int bt, .int (bI cl), .int cd, .int c3.1, .int c3.2.1, .int c3.2.2, .ref mne, .int nx, .int w3.1, .int w3.2.1, .int w3.2.2, .ref mina, .int gv, .ref mrl, .ref mra, .int lns, .int ps, .int st, .int (bI tu)])), (oa, .inl (cZ, wd, .inl (fun jz => bI (of jz))))]) [0, 1] rfl
          have hD9 := hD.sub (ws' := [(mm, .inr (7, [.ref mwr, .ref mbr, .ref mwb, .ref mbb, .ref mbl, .ref mmo, .int th, .int (nI wd), .ref mli, .ref mab, .ref mou, .int bt, .int (bI cl), .int cd, .int c3.1, .int c3.2.1, .int c3.2.2, .ref mne, .int nx, .int w3.1, .int w3.2.1, .int w3.2.2, .ref mina, .int gv, .ref mrl, .ref mra, .int lns, .int ps, .int st, .int (bI tu)])), (oa, .inl (cZ, wd, .inl (fun jz => bI (of jz))))]) [0, 1] (by decide) rfl
          have hl9 := lv_sub (l' := [(4, .int x_7), (0, .ref mm), (1, .ref oa), (2, .int pl), (3, .int (bI bk))]) hl [0, 2, 3, 4, 5] rfl
          have hm9 : ((nI wd).toInt - Int32.toInt x_7).toNat < ((nI wd).toInt - Int32.toInt x).toNat := (by subst ex_7; exact mu_b c_2)
          exact ih5 x_7 _ _ _ ⟨Nat.lt_of_lt_of_le hm9 (Nat.le_of_lt_succ hmu5), hF9, hI9, hP9, hD9, hS, hl9⟩
        · refine lv_iload hx hb d_Model_changeAfter_61 (lv_at hl 1 rfl) ?_
          have hP9 := hP.sub (ws' := [(mm, .inr (7, [.ref mwr, .ref mbr, .ref mwb, .ref mbb, .ref mbl, .ref mmo, .int th, .int (nI wd), .ref mli, .ref mab, .ref mou, .int bt, .int (bI cl), .int cd, .int c3.1, .int c3.2.1, .int c3.2.2, .ref mne, .int nx, .int w3.1, .int w3.2.1, .int w3.2.2, .ref mina, .int gv, .ref mrl, .ref mra, .int lns, .int ps, .int st, .int (bI tu)])), (oa, .inl (cZ, wd, .inl (fun jz => bI (of jz))))]) [0, 1] rfl
          have hD9 := hD.sub (ws' := [(mm, .inr (7, [.ref mwr, .ref mbr, .ref mwb, .ref mbb, .ref mbl, .ref mmo, .int th, .int (nI wd), .ref mli, .ref mab, .ref mou, .int bt, .int (bI cl), .int cd, .int c3.1, .int c3.2.1, .int c3.2.2, .ref mne, .int nx, .int w3.1, .int w3.2.1, .int w3.2.2, .ref mina, .int gv, .ref mrl, .ref mra, .int lns, .int ps, .int st, .int (bI tu)])), (oa, .inl (cZ, wd, .inl (fun jz => bI (of jz))))]) [0, 1] (by decide) rfl
          have hK9 := hK
          exact W.iret (v := x) hx hb hr (fun t ht hW => ⟨⟨x, (), rfl, (by have h9 : f_Model_changeAfter of wd pl bk = x := (by exact (hF5.trans ((if_neg c_2).trans ((if_pos c_3).trans ((if_neg c_4).trans ((if_pos c_6).trans (rfl))))))); exact h9.symm), ⟨by rw [ht]; exact hP9, va_K.moved hW.alike hK9, hD9⟩⟩, hS.F ht⟩) hS.2.2 d_Model_changeAfter_63
    · refine lv_aload_n hx hb d_Model_changeAfter_19 rfl (lv_at hl 2 rfl) ?_
      refine lv_iload hx hb d_Model_changeAfter_20 (lv_at hl 0 rfl) ?_
      refine lv_if_le (tgt := 32) hx hb d_Model_changeAfter_22 (by decide) (fun c_8 => ?_) (fun c_8 => ?_)
      · exact absurd c_8 (by first | decide | assumption | exact not_not_intro (by assumption))
      · refine lv_iload hx hb d_Model_changeAfter_25 (lv_at hl 0 rfl) ?_
        refine lv_iconst (v := 1) hx hb d_Model_changeAfter_27 (by decide) ?_
        refine lv_isub hx hb d_Model_changeAfter_28 ?_
        refine lv_goto (tgt := 33) hx hb d_Model_changeAfter_29 (by decide) ?_
        refine va_zald hx hb hK hP 1 1 rfl rfl (ix_p hwd c_3 c_2) d_Model_changeAfter_33 ?_
        refine lv_if_eq (tgt := 41) hx hb d_Model_changeAfter_34 (by decide) (fun c_9 => ?_) (fun c_9 => ?_)
        · refine lv_iconst (v := 0) hx hb d_Model_changeAfter_41 (by decide) ?_
          refine lv_istore (lv' := [(5, .int 0), (4, .int x), (0, .ref mm), (1, .ref oa), (2, .int pl), (3, .int (bI bk))]) hx hb d_Model_changeAfter_42 hl (by decide) rfl (fun ls hl => ?_)
          refine lv_aload_n hx hb d_Model_changeAfter_44 rfl (lv_at hl 3 rfl) ?_
          refine lv_iload hx hb d_Model_changeAfter_45 (lv_at hl 1 rfl) ?_
          refine va_zald hx hb hK hP 1 1 rfl rfl (ix_b (by omega) hinv c_2) d_Model_changeAfter_47 ?_
          refine lv_iload hx hb d_Model_changeAfter_48 (lv_at hl 0 rfl) ?_
          refine lv_icmp_eq (tgt := 64) hx hb d_Model_changeAfter_50 (by decide) (fun c_10 => ?_) (fun c_10 => ?_)
          · obtain ⟨x_11, ex_11⟩ : ∃ y : Int32, y = x + 1 := ⟨_, rfl⟩
            refine lv_iinc (v := x_11) (lv' := [(4, .int x_11), (5, .int 0), (0, .ref mm), (1, .ref oa), (2, .int pl), (3, .int (bI bk))]) hx hb d_Model_changeAfter_64 hl (k := 1) rfl (by rw [ex_11]; rfl) (by decide) rfl (fun ls hl => ?_)
            replace ex_11 := ex_11.symm
            refine lv_goto (tgt := 5) hx hb d_Model_changeAfter_67 (by decide) ?_
            have hF9 : f_Model_changeAfter of wd pl bk = l_Model_changeAfter_5 of wd pl bk n5 x_11 := (by subst ex_11; exact (hF5.trans ((if_neg c_2).trans ((if_neg c_3).trans ((if_pos c_9).trans ((if_pos c_10).trans (rfl)))))))
            have hI9 : ¬ x_11 < 0 := (by subst ex_11; exact nn_s (by omega) hinv c_2)
            have hP9 := hP.sub (ws' := [(mm, .inr (7, [.ref mwr, .ref mbr, .ref mwb, .ref mbb, .ref mbl, .ref mmo, .int th, .int (nI wd), .ref mli, .ref mab, .ref mou, .int bt, .int (bI cl), .int cd, .int c3.1, .int c3.2.1, .int c3.2.2, .ref mne, .int nx, .int w3.1, .int w3.2.1, .int w3.2.2, .ref mina, .int gv, .ref mrl, .ref mra, .int lns, .int ps, .int st, .int (bI tu)])), (oa, .inl (cZ, wd, .inl (fun jz => bI (of jz))))]) [0, 1] rfl
            have hD9 := hD.sub (ws' := [(mm, .inr (7, [.ref mwr, .ref mbr, .ref mwb, .ref mbb, .ref mbl, .ref mmo, .int th, .int (nI wd), .ref mli, .ref mab, .ref mou, .int bt, .int (bI cl), .int cd, .int c3.1, .int c3.2.1, .int c3.2.2, .ref mne, .int nx, .int w3.1, .int w3.2.1, .int w3.2.2, .ref mina, .int gv, .ref mrl, .ref mra, .int lns, .int ps, .int st, .int (bI tu)])), (oa, .inl (cZ, wd, .inl (fun jz => bI (of jz))))]) [0, 1] (by decide) rfl
            have hl9 := lv_sub (l' := [(4, .int x_11), (0, .ref mm), (1, .ref oa), (2, .int pl), (3, .int (bI bk))]) hl [0, 2, 3, 4, 5] rfl
            have hm9 : ((nI wd).toInt - Int32.toInt x_11).toNat < ((nI wd).toInt - Int32.toInt x).toNat := (by subst ex_11; exact mu_b c_2)
            exact ih5 x_11 _ _ _ ⟨Nat.lt_of_lt_of_le hm9 (Nat.le_of_lt_succ hmu5), hF9, hI9, hP9, hD9, hS, hl9⟩
          · refine lv_aload_n hx hb d_Model_changeAfter_53 rfl (lv_at hl 3 rfl) ?_
            refine lv_iload hx hb d_Model_changeAfter_54 (lv_at hl 1 rfl) ?_
            refine va_zald hx hb hK hP 1 1 rfl rfl (ix_b (by omega) hinv c_2) d_Model_changeAfter_56 ?_
            refine lv_iload_n hx hb d_Model_changeAfter_57 rfl (lv_at hl 5 rfl) ?_
            refine lv_icmp_ne (tgt := 64) hx hb d_Model_changeAfter_58 (by decide) (fun c_12 => ?_) (fun c_12 => ?_)
            · obtain ⟨x_13, ex_13⟩ : ∃ y : Int32, y = x + 1 := ⟨_, rfl⟩
              refine lv_iinc (v := x_13) (lv' := [(4, .int x_13), (5, .int 0), (0, .ref mm), (1, .ref oa), (2, .int pl), (3, .int (bI bk))]) hx hb d_Model_changeAfter_64 hl (k := 1) rfl (by rw [ex_13]; rfl) (by decide) rfl (fun ls hl => ?_)
              replace ex_13 := ex_13.symm
              refine lv_goto (tgt := 5) hx hb d_Model_changeAfter_67 (by decide) ?_
              have hF9 : f_Model_changeAfter of wd pl bk = l_Model_changeAfter_5 of wd pl bk n5 x_13 := (by subst ex_13; exact (hF5.trans ((if_neg c_2).trans ((if_neg c_3).trans ((if_pos c_9).trans ((if_neg c_10).trans ((if_neg c_12).trans (rfl))))))))
              have hI9 : ¬ x_13 < 0 := (by subst ex_13; exact nn_s (by omega) hinv c_2)
              have hP9 := hP.sub (ws' := [(mm, .inr (7, [.ref mwr, .ref mbr, .ref mwb, .ref mbb, .ref mbl, .ref mmo, .int th, .int (nI wd), .ref mli, .ref mab, .ref mou, .int bt, .int (bI cl), .int cd, .int c3.1, .int c3.2.1, .int c3.2.2, .ref mne, .int nx, .int w3.1, .int w3.2.1, .int w3.2.2, .ref mina, .int gv, .ref mrl, .ref mra, .int lns, .int ps, .int st, .int (bI tu)])), (oa, .inl (cZ, wd, .inl (fun jz => bI (of jz))))]) [0, 1] rfl
              have hD9 := hD.sub (ws' := [(mm, .inr (7, [.ref mwr, .ref mbr, .ref mwb, .ref mbb, .ref mbl, .ref mmo, .int th, .int (nI wd), .ref mli, .ref mab, .ref mou, .int bt, .int (bI cl), .int cd, .int c3.1, .int c3.2.1, .int c3.2.2, .ref mne, .int nx, .int w3.1, .int w3.2.1, .int w3.2.2, .ref mina, .int gv, .ref mrl, .ref mra, .int lns, .int ps, .int st, .int (bI tu)])), (oa, .inl (cZ, wd, .inl (fun jz => bI (of jz))))]) [0, 1] (by decide) rfl
              have hl9 := lv_sub (l' := [(4, .int x_13), (0, .ref mm), (1, .ref oa), (2, .int pl), (3, .int (bI bk))]) hl [0, 2, 3, 4, 5] rfl
              have hm9 : ((nI wd).toInt - Int32.toInt x_13).toNat < ((nI wd).toInt - Int32.toInt x).toNat := (by subst ex_13; exact mu_b c_2)
              exact ih5 x_13 _ _ _ ⟨Nat.lt_of_lt_of_le hm9 (Nat.le_of_lt_succ hmu5), hF9, hI9, hP9, hD9, hS, hl9⟩
            · refine lv_iload hx hb d_Model_changeAfter_61 (lv_at hl 1 rfl) ?_
              have hP9 := hP.sub (ws' := [(mm, .inr (7, [.ref mwr, .ref mbr, .ref mwb, .ref mbb, .ref mbl, .ref mmo, .int th, .int (nI wd), .ref mli, .ref mab, .ref mou, .int bt, .int (bI cl), .int cd, .int c3.1, .int c3.2.1, .int c3.2.2, .ref mne, .int nx, .int w3.1, .int w3.2.1, .int w3.2.2, .ref mina, .int gv, .ref mrl, .ref mra, .int lns, .int ps, .int st, .int (bI tu)])), (oa, .inl (cZ, wd, .inl (fun jz => bI (of jz))))]) [0, 1] rfl
              have hD9 := hD.sub (ws' := [(mm, .inr (7, [.ref mwr, .ref mbr, .ref mwb, .ref mbb, .ref mbl, .ref mmo, .int th, .int (nI wd), .ref mli, .ref mab, .ref mou, .int bt, .int (bI cl), .int cd, .int c3.1, .int c3.2.1, .int c3.2.2, .ref mne, .int nx, .int w3.1, .int w3.2.1, .int w3.2.2, .ref mina, .int gv, .ref mrl, .ref mra, .int lns, .int ps, .int st, .int (bI tu)])), (oa, .inl (cZ, wd, .inl (fun jz => bI (of jz))))]) [0, 1] (by decide) rfl
              have hK9 := hK
              exact W.iret (v := x) hx hb hr (fun t ht hW => ⟨⟨x, (), rfl, (by have h9 : f_Model_changeAfter of wd pl bk = x := (by exact (hF5.trans ((if_neg c_2).trans ((if_neg c_3).trans ((if_pos c_9).trans ((if_neg c_10).trans ((if_pos c_12).trans (rfl)))))))); exact h9.symm), ⟨by rw [ht]; exact hP9, va_K.moved hW.alike hK9, hD9⟩⟩, hS.F ht⟩) hS.2.2 d_Model_changeAfter_63
        · refine lv_iconst (v := 1) hx hb d_Model_changeAfter_37 (by decide) ?_
          refine lv_goto (tgt := 42) hx hb d_Model_changeAfter_38 (by decide) ?_
          refine lv_istore (lv' := [(5, .int 1), (4, .int x), (0, .ref mm), (1, .ref oa), (2, .int pl), (3, .int (bI bk))]) hx hb d_Model_changeAfter_42 hl (by decide) rfl (fun ls hl => ?_)
          refine lv_aload_n hx hb d_Model_changeAfter_44 rfl (lv_at hl 3 rfl) ?_
          refine lv_iload hx hb d_Model_changeAfter_45 (lv_at hl 1 rfl) ?_
          refine va_zald hx hb hK hP 1 1 rfl rfl (ix_b (by omega) hinv c_2) d_Model_changeAfter_47 ?_
          refine lv_iload hx hb d_Model_changeAfter_48 (lv_at hl 0 rfl) ?_
          refine lv_icmp_eq (tgt := 64) hx hb d_Model_changeAfter_50 (by decide) (fun c_14 => ?_) (fun c_14 => ?_)
          · obtain ⟨x_15, ex_15⟩ : ∃ y : Int32, y = x + 1 := ⟨_, rfl⟩
            refine lv_iinc (v := x_15) (lv' := [(4, .int x_15), (5, .int 1), (0, .ref mm), (1, .ref oa), (2, .int pl), (3, .int (bI bk))]) hx hb d_Model_changeAfter_64 hl (k := 1) rfl (by rw [ex_15]; rfl) (by decide) rfl (fun ls hl => ?_)
            replace ex_15 := ex_15.symm
            refine lv_goto (tgt := 5) hx hb d_Model_changeAfter_67 (by decide) ?_
            have hF9 : f_Model_changeAfter of wd pl bk = l_Model_changeAfter_5 of wd pl bk n5 x_15 := (by subst ex_15; exact (hF5.trans ((if_neg c_2).trans ((if_neg c_3).trans ((if_neg c_9).trans ((if_pos c_14).trans (rfl)))))))
            have hI9 : ¬ x_15 < 0 := (by subst ex_15; exact nn_s (by omega) hinv c_2)
            have hP9 := hP.sub (ws' := [(mm, .inr (7, [.ref mwr, .ref mbr, .ref mwb, .ref mbb, .ref mbl, .ref mmo, .int th, .int (nI wd), .ref mli, .ref mab, .ref mou, .int bt, .int (bI cl), .int cd, .int c3.1, .int c3.2.1, .int c3.2.2, .ref mne, .int nx, .int w3.1, .int w3.2.1, .int w3.2.2, .ref mina, .int gv, .ref mrl, .ref mra, .int lns, .int ps, .int st, .int (bI tu)])), (oa, .inl (cZ, wd, .inl (fun jz => bI (of jz))))]) [0, 1] rfl
            have hD9 := hD.sub (ws' := [(mm, .inr (7, [.ref mwr, .ref mbr, .ref mwb, .ref mbb, .ref mbl, .ref mmo, .int th, .int (nI wd), .ref mli, .ref mab, .ref mou, .int bt, .int (bI cl), .int cd, .int c3.1, .int c3.2.1, .int c3.2.2, .ref mne, .int nx, .int w3.1, .int w3.2.1, .int w3.2.2, .ref mina, .int gv, .ref mrl, .ref mra, .int lns, .int ps, .int st, .int (bI tu)])), (oa, .inl (cZ, wd, .inl (fun jz => bI (of jz))))]) [0, 1] (by decide) rfl
            have hl9 := lv_sub (l' := [(4, .int x_15), (0, .ref mm), (1, .ref oa), (2, .int pl), (3, .int (bI bk))]) hl [0, 2, 3, 4, 5] rfl
            have hm9 : ((nI wd).toInt - Int32.toInt x_15).toNat < ((nI wd).toInt - Int32.toInt x).toNat := (by subst ex_15; exact mu_b c_2)
            exact ih5 x_15 _ _ _ ⟨Nat.lt_of_lt_of_le hm9 (Nat.le_of_lt_succ hmu5), hF9, hI9, hP9, hD9, hS, hl9⟩
          · refine lv_aload_n hx hb d_Model_changeAfter_53 rfl (lv_at hl 3 rfl) ?_
            refine lv_iload hx hb d_Model_changeAfter_54 (lv_at hl 1 rfl) ?_
            refine va_zald hx hb hK hP 1 1 rfl rfl (ix_b (by omega) hinv c_2) d_Model_changeAfter_56 ?_
            refine lv_iload_n hx hb d_Model_changeAfter_57 rfl (lv_at hl 5 rfl) ?_
            refine lv_icmp_ne (tgt := 64) hx hb d_Model_changeAfter_58 (by decide) (fun c_16 => ?_) (fun c_16 => ?_)
            · obtain ⟨x_17, ex_17⟩ : ∃ y : Int32, y = x + 1 := ⟨_, rfl⟩
              refine lv_iinc (v := x_17) (lv' := [(4, .int x_17), (5, .int 1), (0, .ref mm), (1, .ref oa), (2, .int pl), (3, .int (bI bk))]) hx hb d_Model_changeAfter_64 hl (k := 1) rfl (by rw [ex_17]; rfl) (by decide) rfl (fun ls hl => ?_)
              replace ex_17 := ex_17.symm
              refine lv_goto (tgt := 5) hx hb d_Model_changeAfter_67 (by decide) ?_
              have hF9 : f_Model_changeAfter of wd pl bk = l_Model_changeAfter_5 of wd pl bk n5 x_17 := (by subst ex_17; exact (hF5.trans ((if_neg c_2).trans ((if_neg c_3).trans ((if_neg c_9).trans ((if_neg c_14).trans ((if_neg c_16).trans (rfl))))))))
              have hI9 : ¬ x_17 < 0 := (by subst ex_17; exact nn_s (by omega) hinv c_2)
              have hP9 := hP.sub (ws' := [(mm, .inr (7, [.ref mwr, .ref mbr, .ref mwb, .ref mbb, .ref mbl, .ref mmo, .int th, .int (nI wd), .ref mli, .ref mab, .ref mou, .int bt, .int (bI cl), .int cd, .int c3.1, .int c3.2.1, .int c3.2.2, .ref mne, .int nx, .int w3.1, .int w3.2.1, .int w3.2.2, .ref mina, .int gv, .ref mrl, .ref mra, .int lns, .int ps, .int st, .int (bI tu)])), (oa, .inl (cZ, wd, .inl (fun jz => bI (of jz))))]) [0, 1] rfl
              have hD9 := hD.sub (ws' := [(mm, .inr (7, [.ref mwr, .ref mbr, .ref mwb, .ref mbb, .ref mbl, .ref mmo, .int th, .int (nI wd), .ref mli, .ref mab, .ref mou, .int bt, .int (bI cl), .int cd, .int c3.1, .int c3.2.1, .int c3.2.2, .ref mne, .int nx, .int w3.1, .int w3.2.1, .int w3.2.2, .ref mina, .int gv, .ref mrl, .ref mra, .int lns, .int ps, .int st, .int (bI tu)])), (oa, .inl (cZ, wd, .inl (fun jz => bI (of jz))))]) [0, 1] (by decide) rfl
              have hl9 := lv_sub (l' := [(4, .int x_17), (0, .ref mm), (1, .ref oa), (2, .int pl), (3, .int (bI bk))]) hl [0, 2, 3, 4, 5] rfl
              have hm9 : ((nI wd).toInt - Int32.toInt x_17).toNat < ((nI wd).toInt - Int32.toInt x).toNat := (by subst ex_17; exact mu_b c_2)
              exact ih5 x_17 _ _ _ ⟨Nat.lt_of_lt_of_le hm9 (Nat.le_of_lt_succ hmu5), hF9, hI9, hP9, hD9, hS, hl9⟩
            · refine lv_iload hx hb d_Model_changeAfter_61 (lv_at hl 1 rfl) ?_
              have hP9 := hP.sub (ws' := [(mm, .inr (7, [.ref mwr, .ref mbr, .ref mwb, .ref mbb, .ref mbl, .ref mmo, .int th, .int (nI wd), .ref mli, .ref mab, .ref mou, .int bt, .int (bI cl), .int cd, .int c3.1, .int c3.2.1, .int c3.2.2, .ref mne, .int nx, .int w3.1, .int w3.2.1, .int w3.2.2, .ref mina, .int gv, .ref mrl, .ref mra, .int lns, .int ps, .int st, .int (bI tu)])), (oa, .inl (cZ, wd, .inl (fun jz => bI (of jz))))]) [0, 1] rfl
              have hD9 := hD.sub (ws' := [(mm, .inr (7, [.ref mwr, .ref mbr, .ref mwb, .ref mbb, .ref mbl, .ref mmo, .int th, .int (nI wd), .ref mli, .ref mab, .ref mou, .int bt, .int (bI cl), .int cd, .int c3.1, .int c3.2.1, .int c3.2.2, .ref mne, .int nx, .int w3.1, .int w3.2.1, .int w3.2.2, .ref mina, .int gv, .ref mrl, .ref mra, .int lns, .int ps, .int st, .int (bI tu)])), (oa, .inl (cZ, wd, .inl (fun jz => bI (of jz))))]) [0, 1] (by decide) rfl
              have hK9 := hK
              exact W.iret (v := x) hx hb hr (fun t ht hW => ⟨⟨x, (), rfl, (by have h9 : f_Model_changeAfter of wd pl bk = x := (by exact (hF5.trans ((if_neg c_2).trans ((if_neg c_3).trans ((if_neg c_9).trans ((if_neg c_14).trans ((if_pos c_16).trans (rfl)))))))); exact h9.symm), ⟨by rw [ht]; exact hP9, va_K.moved hW.alike hK9, hD9⟩⟩, hS.F ht⟩) hS.2.2 d_Model_changeAfter_63
def l_Model_paint_37 (wd : Nat) (th : Int32) (lin : Nat → Bool) (x : Int32) (n : Int32) (bk : Bool) : Nat → (Nat → Bool) → Int32 → Int32 → Int32 × (Int32 × (Nat → Bool))
  | 0, _, _, _ => default
  | n37 + 1, g, k, zth => if (x + n) ≤ k then ((1, (zth, g))) else (let g_6 := uB g k.toNatClampNeg bk; let x_7 := k + 1; l_Model_paint_37 wd th lin x n bk n37 g_6 x_7 zth)
def f_Model_paint (wd : Nat) (th : Int32) (lin : Nat → Bool) (x : Int32) (n : Int32) (bk : Bool) : Int32 × (Int32 × (Nat → Bool)) := if x < 0 then ((0, (0, lin))) else (if n < 1 then ((0, (0, lin))) else (if (nI wd) < n then ((0, (0, lin))) else (if x ≤ ((nI wd) - n) then (l_Model_paint_37 wd th lin x n bk ((Int32.toInt (x + n) - Int32.toInt x).toNat + 1) lin x (0 : Int32)) else ((0, (0, lin))))))
set_option maxHeartbeats 4000000 in
set_option maxRecDepth 100000 in
theorem c_Model_paint (l : Launch) (dC : Nat → ClassId) (dI : Nat → Nat → Nat) (cI cZ : ClassId) (mm : Nat) (mwr : Nat) (mbr : Nat) (mwb : Nat) (mbb : Nat) (mbl : Nat) (mmo : Nat) (mli : Nat) (mab : Nat) (mou : Nat) (mne : Nat) (mina : Nat) (mrl : Nat) (mra : Nat) (wd : Nat) (bt : Int32) (cl : Bool) (cd : Int32) (c3 : Int32 × Int32 × Int32) (nx : Int32) (w3 : Int32 × Int32 × Int32) (gv : Int32) (lns : Int32) (ps : Int32) (st : Int32) (tu : Bool) (sz : Nat) (th : Int32) (lin : Nat → Bool) (x : Int32) (n : Int32) (bk : Bool) (hwd : wd ≤ 10000) : Met l y_Model_paint w_Model_paint ({ frames := 0, cells := 0, slots := 0, locals := 0 }) (va_Pc [.ref mm, .int x, .int n, .int (bI bk)] (fun U => U.heap.size = sz ∧ va_P (dC, dI) classes [(mm, .inr (7, [.ref mwr, .ref mbr, .ref mwb, .ref mbb, .ref mbl, .ref mmo, .int th, .int (nI wd), .ref mli, .ref mab, .ref mou, .int bt, .int (bI cl), .int cd, .int c3.1, .int c3.2.1, .int c3.2.2, .ref mne, .int nx, .int w3.1, .int w3.2.1, .int w3.2.2, .ref mina, .int gv, .ref mrl, .ref mra, .int lns, .int ps, .int st, .int (bI tu)])), (mli, .inl (cZ, wd, .inl (fun jz => bI (lin jz))))] U.heap ∧ va_K (dC, dI) classes [(cI, .int), (cZ, .boolean)] U ∧ va_D (fun _ => True) [(mm, .inr (7, [.ref mwr, .ref mbr, .ref mwb, .ref mbb, .ref mbl, .ref mmo, .int th, .int (nI wd), .ref mli, .ref mab, .ref mou, .int bt, .int (bI cl), .int cd, .int c3.1, .int c3.2.1, .int c3.2.2, .ref mne, .int nx, .int w3.1, .int w3.2.1, .int w3.2.2, .ref mina, .int gv, .ref mrl, .ref mra, .int lns, .int ps, .int st, .int (bI tu)])), (mli, .inl (cZ, wd, .inl (fun jz => bI (lin jz))))])) (va_Qi (fun (r : Int32) (u : Int32 × (Nat → Bool)) => r = (f_Model_paint wd th lin x n bk).1 ∧ u = (f_Model_paint wd th lin x n bk).2) (fun (u : Int32 × (Nat → Bool)) (t : State) => va_P (dC, dI) classes [(mm, .inr (7, [.ref mwr, .ref mbr, .ref mwb, .ref mbb, .ref mbl, .ref mmo, .int u.1, .int (nI wd), .ref mli, .ref mab, .ref mou, .int bt, .int (bI cl), .int cd, .int c3.1, .int c3.2.1, .int c3.2.2, .ref mne, .int nx, .int w3.1, .int w3.2.1, .int w3.2.2, .ref mina, .int gv, .ref mrl, .ref mra, .int lns, .int ps, .int st, .int (bI tu)])), (mli, .inl (cZ, wd, .inl (fun jz => bI (u.2 jz))))] t.heap ∧ va_K (dC, dI) classes [(cI, .int), (cZ, .boolean)] t ∧ va_D (va_A [(mm, .inr (7, [.ref mwr, .ref mbr, .ref mwb, .ref mbb, .ref mbl, .ref mmo, .int th, .int (nI wd), .ref mli, .ref mab, .ref mou, .int bt, .int (bI cl), .int cd, .int c3.1, .int c3.2.1, .int c3.2.2, .ref mne, .int nx, .int w3.1, .int w3.2.1, .int w3.2.2, .ref mina, .int gv, .ref mrl, .ref mra, .int lns, .int ps, .int st, .int (bI tu)])), (mli, .inl (cZ, wd, .inl (fun jz => bI (lin jz))))] sz) [(mm, .inr (7, [.ref mwr, .ref mbr, .ref mwb, .ref mbb, .ref mbl, .ref mmo, .int u.1, .int (nI wd), .ref mli, .ref mab, .ref mou, .int bt, .int (bI cl), .int cd, .int c3.1, .int c3.2.1, .int c3.2.2, .ref mne, .int nx, .int w3.1, .int w3.2.1, .int w3.2.2, .ref mina, .int gv, .ref mrl, .ref mra, .int lns, .int ps, .int st, .int (bI tu)])), (mli, .inl (cZ, wd, .inl (fun jz => bI (u.2 jz))))]) (va_A [(mm, .inr (7, [.ref mwr, .ref mbr, .ref mwb, .ref mbb, .ref mbl, .ref mmo, .int th, .int (nI wd), .ref mli, .ref mab, .ref mou, .int bt, .int (bI cl), .int cd, .int c3.1, .int c3.2.1, .int c3.2.2, .ref mne, .int nx, .int w3.1, .int w3.2.1, .int w3.2.2, .ref mina, .int gv, .ref mrl, .ref mra, .int lns, .int ps, .int st, .int (bI tu)])), (mli, .inl (cZ, wd, .inl (fun jz => bI (lin jz))))] sz)) 0 0 (va_A [(mm, .inr (7, [.ref mwr, .ref mbr, .ref mwb, .ref mbb, .ref mbl, .ref mmo, .int th, .int (nI wd), .ref mli, .ref mab, .ref mou, .int bt, .int (bI cl), .int cd, .int c3.1, .int c3.2.1, .int c3.2.2, .ref mne, .int nx, .int w3.1, .int w3.2.1, .int w3.2.2, .ref mina, .int gv, .ref mrl, .ref mra, .int lns, .int ps, .int st, .int (bI tu)])), (mli, .inl (cZ, wd, .inl (fun jz => bI (lin jz))))] sz) := by
  refine Met.ofW (cc := b_Model_paint) (maxL := 5) (ret := (some .boolean)) (by decide) rfl ?_
  intro p e s m args below meth c s₁ B hml hv
  obtain ⟨rfl, hsz, hP, hK, hD0⟩ := hv
  have hx := B.exec
  have hb := B.bytes
  have hr := B.returns
  have hts := atoms_spec (ws := w_Model_paint) B.pre
  have hw : ∀ w ∈ WA, w.before _ s = true := fun w h => hts w (List.mem_cons_of_mem _ h)
  have hown : s.vm.findClass R_Model = some m.cls := findClass_of_methodNamed B.named
  have hlocks := B.notSynchronized
  subst hsz
  have hD := hD0.self (sz := s.heap.size)
  generalize hAe : va_A [(mm, .inr (7, [.ref mwr, .ref mbr, .ref mwb, .ref mbb, .ref mbl, .ref mmo, .int th, .int (nI wd), .ref mli, .ref mab, .ref mou, .int bt, .int (bI cl), .int cd, .int c3.1, .int c3.2.1, .int c3.2.2, .ref mne, .int nx, .int w3.1, .int w3.2.1, .int w3.2.2, .ref mina, .int gv, .ref mrl, .ref mra, .int lns, .int ps, .int st, .int (bI tu)])), (mli, .inl (cZ, wd, .inl (fun jz => bI (lin jz))))] s.heap.size = A at hD ⊢
  have hA : ∀ q : Nat, s.heap.size ≤ q → A q := fun q h => by rw [← hAe]; exact Or.inr h
  have hS : va_S A s.heap s.heap [] := va_S.rf
  have hP : va_P (dC, dI) classes [(mm, .inr (7, [.ref mwr, .ref mbr, .ref mwb, .ref mbb, .ref mbl, .ref mmo, .int th, .int (nI wd), .ref mli, .ref mab, .ref mou, .int bt, .int (bI cl), .int cd, .int c3.1, .int c3.2.1, .int c3.2.2, .ref mne, .int nx, .int w3.1, .int w3.2.1, .int w3.2.2, .ref mina, .int gv, .ref mrl, .ref mra, .int lns, .int ps, .int st, .int (bI tu)])), (mli, .inl (cZ, wd, .inl (fun jz => bI (lin jz))))] s.heap := hP
  have hl := lv_entry ([.ref mm, .int x, .int n, .int (bI bk)]) (n := 5) (Nat.le_of_ble_eq_true rfl)
  rw [lg_entry_eq]
  generalize (lg_sl ([.ref mm, .int x, .int n, .int (bI bk)]) ++ List.replicate (5 - (lg_sl ([.ref mm, .int x, .int n, .int (bI bk)])).length) Slot.unset).toArray = ls at hl ⊢
  have hl : lv_has ls 5 [(0, .ref mm), (1, .int x), (2, .int n), (3, .int (bI bk))] := hl
  refine lv_aload_n hx hb d_Model_paint_0 rfl (lv_at hl 0 rfl) ?_
  refine lv_iconst (v := 0) hx hb d_Model_paint_1 (by decide) ?_
  refine va_put (D := (dC, dI)) (ci := 7) (v := .int 0) (ty := .int) (C := R_Model) (T := F_Model) (N := 30) hx hb hw i_Model t_Model t_Model_ok n_Model hown hK hP hD hS 0 rfl rfl 6 (by decide) (hw _ m_670) (fun _ h9 => h9) rfl (by decide +kernel) rfl rfl (Nat.le_of_ble_eq_true rfl) d_Model_paint_2 (fun H locs hP hD hS => ?_)
  have hP : va_P (dC, dI) classes [(mm, .inr (7, [.ref mwr, .ref mbr, .ref mwb, .ref mbb, .ref mbl, .ref mmo, .int 0, .int (nI wd), .ref mli, .ref mab, .ref mou, .int bt, .int (bI cl), .int cd, .int c3.1, .int c3.2.1, .int c3.2.2, .ref mne, .int nx, .int w3.1, .int w3.2.1, .int w3.2.2, .ref mina, .int gv, .ref mrl, .ref mra, .int lns, .int ps, .int st, .int (bI tu)])), (mli, .inl (cZ, wd, .inl (fun jz => bI (lin jz))))] H := hP
  have hD : va_D A [(mm, .inr (7, [.ref mwr, .ref mbr, .ref mwb, .ref mbb, .ref mbl, .ref mmo, .int 0, .int (nI wd), .ref mli, .ref mab, .ref mou, .int bt, .int (bI cl), .int cd, .int c3.1, .int c3.2.1, .int c3.2.2, .ref mne, .int nx, .int w3.1, .int w3.2.1, .int w3.2.2, .ref mina, .int gv, .ref mrl, .ref mra, .int lns, .int ps, .int st, .int (bI tu)])), (mli, .inl (cZ, wd, .inl (fun jz => bI (lin jz))))] := hD
  refine lv_iload_n hx hb d_Model_paint_5 rfl (lv_at hl 1 rfl) ?_
  refine lv_if_lt (tgt := 32) hx hb d_Model_paint_6 (by decide) (fun c_1 => ?_) (fun c_1 => ?_)
  · refine lv_iconst (v := 0) hx hb d_Model_paint_32 (by decide) ?_
    have hP9 := hP.sub (ws' := [(mm, .inr (7, [.ref mwr, .ref mbr, .ref mwb, .ref mbb, .ref mbl, .ref mmo, .int 0, .int (nI wd), .ref mli, .ref mab, .ref mou, .int bt, .int (bI cl), .int cd, .int c3.1, .int c3.2.1, .int c3.2.2, .ref mne, .int nx, .int w3.1, .int w3.2.1, .int w3.2.2, .ref mina, .int gv, .ref mrl, .ref mra, .int lns, .int ps, .int st, .int (bI tu)])), (mli, .inl (cZ, wd, .inl (fun jz => bI (lin jz))))]) [0, 1] rfl
    have hD9 := hD.sub (ws' := [(mm, .inr (7, [.ref mwr, .ref mbr, .ref mwb, .ref mbb, .ref mbl, .ref mmo, .int 0, .int (nI wd), .ref mli, .ref mab, .ref mou, .int bt, .int (bI cl), .int cd, .int c3.1, .int c3.2.1, .int c3.2.2, .ref mne, .int nx, .int w3.1, .int w3.2.1, .int w3.2.2, .ref mina, .int gv, .ref mrl, .ref mra, .int lns, .int ps, .int st, .int (bI tu)])), (mli, .inl (cZ, wd, .inl (fun jz => bI (lin jz))))]) [0, 1] (by decide) rfl
    have hK9 := hK
    exact W.zret (v := 0) hx hb hr rfl (fun t ht hW => ⟨⟨0, (0, lin), rfl, (by have h9 : f_Model_paint wd th lin x n bk = (0, (0, lin)) := (by exact ((if_pos c_1).trans (rfl))); exact ⟨(congrArg Prod.fst h9).symm, (congrArg Prod.snd h9).symm⟩), ⟨by rw [ht]; exact hP9, va_K.moved hW.alike hK9, hD9⟩⟩, hS.F ht⟩) hS.2.2 d_Model_paint_33
  · refine lv_iload_n hx hb d_Model_paint_9 rfl (lv_at hl 2 rfl) ?_
    refine lv_iconst (v := 1) hx hb d_Model_paint_10 (by decide) ?_
    refine lv_icmp_lt (tgt := 32) hx hb d_Model_paint_11 (by decide) (fun c_2 => ?_) (fun c_2 => ?_)
    · refine lv_iconst (v := 0) hx hb d_Model_paint_32 (by decide) ?_
      have hP9 := hP.sub (ws' := [(mm, .inr (7, [.ref mwr, .ref mbr, .ref mwb, .ref mbb, .ref mbl, .ref mmo, .int 0, .int (nI wd), .ref mli, .ref mab, .ref mou, .int bt, .int (bI cl), .int cd, .int c3.1, .int c3.2.1, .int c3.2.2, .ref mne, .int nx, .int w3.1, .int w3.2.1, .int w3.2.2, .ref mina, .int gv, .ref mrl, .ref mra, .int lns, .int ps, .int st, .int (bI tu)])), (mli, .inl (cZ, wd, .inl (fun jz => bI (lin jz))))]) [0, 1] rfl
      have hD9 := hD.sub (ws' := [(mm, .inr (7, [.ref mwr, .ref mbr, .ref mwb, .ref mbb, .ref mbl, .ref mmo, .int 0, .int (nI wd), .ref mli, .ref mab, .ref mou, .int bt, .int (bI cl), .int cd, .int c3.1, .int c3.2.1, .int c3.2.2, .ref mne, .int nx, .int w3.1, .int w3.2.1, .int w3.2.2, .ref mina, .int gv, .ref mrl, .ref mra, .int lns, .int ps, .int st, .int (bI tu)])), (mli, .inl (cZ, wd, .inl (fun jz => bI (lin jz))))]) [0, 1] (by decide) rfl
      have hK9 := hK
      exact W.zret (v := 0) hx hb hr rfl (fun t ht hW => ⟨⟨0, (0, lin), rfl, (by have h9 : f_Model_paint wd th lin x n bk = (0, (0, lin)) := (by exact ((if_neg c_1).trans ((if_pos c_2).trans (rfl)))); exact ⟨(congrArg Prod.fst h9).symm, (congrArg Prod.snd h9).symm⟩), ⟨by rw [ht]; exact hP9, va_K.moved hW.alike hK9, hD9⟩⟩, hS.F ht⟩) hS.2.2 d_Model_paint_33
    · refine lv_iload_n hx hb d_Model_paint_14 rfl (lv_at hl 2 rfl) ?_
      refine lv_aload_n hx hb d_Model_paint_15 rfl (lv_at hl 0 rfl) ?_
      refine va_get (D := (dC, dI)) (ci := 7) (v := .int (nI wd)) (C := R_Model) (T := F_Model) (N := 30) hx hb hw i_Model hown hK hP 0 rfl rfl 7 (by decide) (hw _ m_671) (fun _ h9 => h9) rfl d_Model_paint_16 ?_
      refine lv_icmp_gt (tgt := 32) hx hb d_Model_paint_19 (by decide) (fun c_3 => ?_) (fun c_3 => ?_)
      · refine lv_iconst (v := 0) hx hb d_Model_paint_32 (by decide) ?_
        have hP9 := hP.sub (ws' := [(mm, .inr (7, [.ref mwr, .ref mbr, .ref mwb, .ref mbb, .ref mbl, .ref mmo, .int 0, .int (nI wd), .ref mli, .ref mab, .ref mou, .int bt, .int (bI cl), .int cd, .int c3.1, .int c3.2.1, .int c3.2.2, .ref mne, .int nx, .int w3.1, .int w3.2.1, .int w3.2.2, .ref mina, .int gv, .ref mrl, .ref mra, .int lns, .int ps, .int st, .int (bI tu)])), (mli, .inl (cZ, wd, .inl (fun jz => bI (lin jz))))]) [0, 1] rfl
        have hD9 := hD.sub (ws' := [(mm, .inr (7, [.ref mwr, .ref mbr, .ref mwb, .ref mbb, .ref mbl, .ref mmo, .int 0, .int (nI wd), .ref mli, .ref mab, .ref mou, .int bt, .int (bI cl), .int cd, .int c3.1, .int c3.2.1, .int c3.2.2, .ref mne, .int nx, .int w3.1, .int w3.2.1, .int w3.2.2, .ref mina, .int gv, .ref mrl, .ref mra, .int lns, .int ps, .int st, .int (bI tu)])), (mli, .inl (cZ, wd, .inl (fun jz => bI (lin jz))))]) [0, 1] (by decide) rfl
        have hK9 := hK
        exact W.zret (v := 0) hx hb hr rfl (fun t ht hW => ⟨⟨0, (0, lin), rfl, (by have h9 : f_Model_paint wd th lin x n bk = (0, (0, lin)) := (by exact ((if_neg c_1).trans ((if_neg c_2).trans ((if_pos c_3).trans (rfl))))); exact ⟨(congrArg Prod.fst h9).symm, (congrArg Prod.snd h9).symm⟩), ⟨by rw [ht]; exact hP9, va_K.moved hW.alike hK9, hD9⟩⟩, hS.F ht⟩) hS.2.2 d_Model_paint_33
      · refine lv_iload_n hx hb d_Model_paint_22 rfl (lv_at hl 1 rfl) ?_
        refine lv_aload_n hx hb d_Model_paint_23 rfl (lv_at hl 0 rfl) ?_
        refine va_get (D := (dC, dI)) (ci := 7) (v := .int (nI wd)) (C := R_Model) (T := F_Model) (N := 30) hx hb hw i_Model hown hK hP 0 rfl rfl 7 (by decide) (hw _ m_671) (fun _ h9 => h9) rfl d_Model_paint_24 ?_
        refine lv_iload_n hx hb d_Model_paint_27 rfl (lv_at hl 2 rfl) ?_
        refine lv_isub hx hb d_Model_paint_28 ?_
        refine lv_icmp_le (tgt := 34) hx hb d_Model_paint_29 (by decide) (fun c_4 => ?_) (fun c_4 => ?_)
        · refine lv_iload_n hx hb d_Model_paint_34 rfl (lv_at hl 1 rfl) ?_
          refine lv_istore (lv' := [(4, .int x), (0, .ref mm), (1, .int x), (2, .int n), (3, .int (bI bk))]) hx hb d_Model_paint_35 hl (by decide) rfl (fun ls hl => ?_)
          have hF9 : f_Model_paint wd th lin x n bk = l_Model_paint_37 wd th lin x n bk ((Int32.toInt (x + n) - Int32.toInt x).toNat + 1) lin x (0 : Int32) := (by exact ((if_neg c_1).trans ((if_neg c_2).trans ((if_neg c_3).trans ((if_pos c_4).trans (rfl))))))
          have hI9 : ¬ x < 0 := (by exact c_1)
          have hP9 := hP.sub (ws' := [(mm, .inr (7, [.ref mwr, .ref mbr, .ref mwb, .ref mbb, .ref mbl, .ref mmo, .int 0, .int (nI wd), .ref mli, .ref mab, .ref mou, .int bt, .int (bI cl), .int cd, .int c3.1, .int c3.2.1, .int c3.2.2, .ref mne, .int nx, .int w3.1, .int w3.2.1, .int w3.2.2, .ref mina, .int gv, .ref mrl, .ref mra, .int lns, .int ps, .int st, .int (bI tu)])), (mli, .inl (cZ, wd, .inl (fun jz => bI (lin jz))))]) [0, 1] rfl
          have hD9 := hD.sub (ws' := [(mm, .inr (7, [.ref mwr, .ref mbr, .ref mwb, .ref mbb, .ref mbl, .ref mmo, .int 0, .int (nI wd), .ref mli, .ref mab, .ref mou, .int bt, .int (bI cl), .int cd, .int c3.1, .int c3.2.1, .int c3.2.2, .ref mne, .int nx, .int w3.1, .int w3.2.1, .int w3.2.2, .ref mina, .int gv, .ref mrl, .ref mra, .int lns, .int ps, .int st, .int (bI tu)])), (mli, .inl (cZ, wd, .inl (fun jz => bI (lin jz))))]) [0, 1] (by decide) rfl
          have hl9 := lv_sub (l' := [(4, .int x), (0, .ref mm), (1, .int x), (2, .int n), (3, .int (bI bk))]) hl [0, 1, 2, 3, 4] rfl
          refine lp_n (pc := 37) (σ := (Nat → Bool) × Int32 × Int32) (I := fun nQ vQ H locs ls => (Int32.toInt (x + n) - Int32.toInt vQ.2.1).toNat < nQ ∧ f_Model_paint wd th lin x n bk = l_Model_paint_37 wd th lin x n bk nQ vQ.1 vQ.2.1 vQ.2.2 ∧ (¬ vQ.2.1 < 0) ∧ va_P (dC, dI) classes [(mm, .inr (7, [.ref mwr, .ref mbr, .ref mwb, .ref mbb, .ref mbl, .ref mmo, .int vQ.2.2, .int (nI wd), .ref mli, .ref mab, .ref mou, .int bt, .int (bI cl), .int cd, .int c3.1, .int c3.2.1, .int c3.2.2, .ref mne, .int nx, .int w3.1, .int w3.2.1, .int w3.2.2, .ref mina, .int gv, .ref mrl, .ref mra, .int lns, .int ps, .int st, .int (bI tu)])), (mli, .inl (cZ, wd, .inl (fun jz => bI (vQ.1 jz))))] H ∧ va_D A [(mm, .inr (7, [.ref mwr, .ref mbr, .ref mwb, .ref mbb, .ref mbl, .ref mmo, .int vQ.2.2, .int (nI wd), .ref mli, .ref mab, .ref mou, .int bt, .int (bI cl), .int cd, .int c3.1, .int c3.2.1, .int c3.2.2, .ref mne, .int nx, .int w3.1, .int w3.2.1, .int w3.2.2, .ref mina, .int gv, .ref mrl, .ref mra, .int lns, .int ps, .int st, .int (bI tu)])), (mli, .inl (cZ, wd, .inl (fun jz => bI (vQ.1 jz))))] ∧ va_S A s.heap H locs ∧ lv_has ls 5 [(4, .int vQ.2.1), (0, .ref mm), (1, .int x), (2, .int n), (3, .int (bI bk))]) (fun vQ H locs ls h => absurd h.1 (Nat.not_lt_zero _)) ?_ ((Int32.toInt (x + n) - Int32.toInt x).toNat + 1) (lin, x, (0 : Int32)) _ _ _ ⟨Nat.lt_succ_self _, hF9, hI9, hP9, hD9, hS, hl9⟩
          intro n37 ih37 vQ H locs ls hI
          obtain ⟨g, k, zth⟩ := vQ
          obtain ⟨hmu37, hF37, hinv, hP, hD, hS, hl⟩ := hI
          have hinv : ¬ k < 0 := hinv
          have hmu37 : (Int32.toInt (x + n) - Int32.toInt k).toNat < n37 + 1 := hmu37
          have hF37 : f_Model_paint wd th lin x n bk = l_Model_paint_37 wd th lin x n bk (n37 + 1) g k zth := hF37
          have hinv : ¬ k < 0 := hinv
          have hP : va_P (dC, dI) classes [(mm, .inr (7, [.ref mwr, .ref mbr, .ref mwb, .ref mbb, .ref mbl, .ref mmo, .int zth, .int (nI wd), .ref mli, .ref mab, .ref mou, .int bt, .int (bI cl), .int cd, .int c3.1, .int c3.2.1, .int c3.2.2, .ref mne, .int nx, .int w3.1, .int w3.2.1, .int w3.2.2, .ref mina, .int gv, .ref mrl, .ref mra, .int lns, .int ps, .int st, .int (bI tu)])), (mli, .inl (cZ, wd, .inl (fun jz => bI (g jz))))] H := hP
          have hD : va_D A [(mm, .inr (7, [.ref mwr, .ref mbr, .ref mwb, .ref mbb, .ref mbl, .ref mmo, .int zth, .int (nI wd), .ref mli, .ref mab, .ref mou, .int bt, .int (bI cl), .int cd, .int c3.1, .int c3.2.1, .int c3.2.2, .ref mne, .int nx, .int w3.1, .int w3.2.1, .int w3.2.2, .ref mina, .int gv, .ref mrl, .ref mra, .int lns, .int ps, .int st, .int (bI tu)])), (mli, .inl (cZ, wd, .inl (fun jz => bI (g jz))))] := hD
          have hl : lv_has ls 5 [(4, .int k), (0, .ref mm), (1, .int x), (2, .int n), (3, .int (bI bk))] := hl
          refine lv_iload hx hb d_Model_paint_37 (lv_at hl 0 rfl) ?_
          refine lv_iload_n hx hb d_Model_paint_39 rfl (lv_at hl 2 rfl) ?_
          refine lv_iload_n hx hb d_Model_paint_40 rfl (lv_at hl 3 rfl) ?_
          refine lv_iadd hx hb d_Model_paint_41 ?_
          refine lv_icmp_ge (tgt := 59) hx hb d_Model_paint_42 (by decide) (fun c_5 => ?_) (fun c_5 => ?_)
          · refine lv_iconst (v := 1) hx hb d_Model_paint_59 (by decide) ?_
            have hP9 := hP.sub (ws' := [(mm, .inr (7, [.ref mwr, .ref mbr, .ref mwb, .ref mbb, .ref mbl, .ref mmo, .int zth, .int (nI wd), .ref mli, .ref mab, .ref mou, .int bt, .int (bI cl), .int cd, .int c3.1, .int c3.2.1, .int c3.2.2, .ref mne, .int nx, .int w3.1, .int w3.2.1, .int w3.2.2, .ref mina, .int gv, .ref mrl, .ref mra, .int lns, .int ps, .int st, .int (bI tu)])), (mli, .inl (cZ, wd, .inl (fun jz => bI (g jz))))]) [0, 1] rfl
            have hD9 := hD.sub (ws' := [(mm, .inr (7, [.ref mwr, .ref mbr, .ref mwb, .ref mbb, .ref mbl, .ref mmo, .int zth, .int (nI wd), .ref mli, .ref mab, .ref mou, .int bt, .int (bI cl), .int cd, .int c3.1, .int c3.2.1, .int c3.2.2, .ref mne, .int nx, .int w3.1, .int w3.2.1, .int w3.2.2, .ref mina, .int gv, .ref mrl, .ref mra, .int lns, .int ps, .int st, .int (bI tu)])), (mli, .inl (cZ, wd, .inl (fun jz => bI (g jz))))]) [0, 1] (by decide) rfl
            have hK9 := hK
            exact W.zret (v := 1) hx hb hr rfl (fun t ht hW => ⟨⟨1, (zth, g), rfl, (by have h9 : f_Model_paint wd th lin x n bk = (1, (zth, g)) := (by exact (hF37.trans ((if_pos c_5).trans (rfl)))); exact ⟨(congrArg Prod.fst h9).symm, (congrArg Prod.snd h9).symm⟩), ⟨by rw [ht]; exact hP9, va_K.moved hW.alike hK9, hD9⟩⟩, hS.F ht⟩) hS.2.2 d_Model_paint_60
          · refine lv_aload_n hx hb d_Model_paint_45 rfl (lv_at hl 1 rfl) ?_
            refine va_get (D := (dC, dI)) (ci := 7) (v := .ref mli) (C := R_Model) (T := F_Model) (N := 30) hx hb hw i_Model hown hK hP 0 rfl rfl 8 (by decide) (hw _ m_672) (fun _ h9 => h9) rfl d_Model_paint_46 ?_
            refine lv_iload hx hb d_Model_paint_49 (lv_at hl 0 rfl) ?_
            refine lv_iload_n hx hb d_Model_paint_51 rfl (lv_at hl 4 rfl) ?_
            refine va_zast (x := bI bk) hx hb hK hP hD hS 1 1 rfl rfl (ix_pt hwd c_1 c_2 c_3 c_4 hinv c_5) d_Model_paint_52 (fun H locs hP hD hS => ?_)
            rw [zupd] at hP hD
            obtain ⟨g_6, eg_6⟩ : ∃ y : Nat → Bool, y = uB g k.toNatClampNeg bk := ⟨_, rfl⟩
            rw [← eg_6] at hP hD
            replace eg_6 := eg_6.symm
            have hP : va_P (dC, dI) classes [(mm, .inr (7, [.ref mwr, .ref mbr, .ref mwb, .ref mbb, .ref mbl, .ref mmo, .int zth, .int (nI wd), .ref mli, .ref mab, .ref mou, .int bt, .int (bI cl), .int cd, .int c3.1, .int c3.2.1, .int c3.2.2, .ref mne, .int nx, .int w3.1, .int w3.2.1, .int w3.2.2, .ref mina, .int gv, .ref mrl, .ref mra, .int lns, .int ps, .int st, .int (bI tu)])), (mli, .inl (cZ, wd, .inl (fun jz => bI (g_6 jz))))] H := hP
            have hD : va_D A [(mm, .inr (7, [.ref mwr, .ref mbr, .ref mwb, .ref mbb, .ref mbl, .ref mmo, .int zth, .int (nI wd), .ref mli, .ref mab, .ref mou, .int bt, .int (bI cl), .int cd, .int c3.1, .int c3.2.1, .int c3.2.2, .ref mne, .int nx, .int w3.1, .int w3.2.1, .int w3.2.2, .ref mina, .int gv, .ref mrl, .ref mra, .int lns, .int ps, .int st, .int (bI tu)])), (mli, .inl (cZ, wd, .inl (fun jz => bI (g_6 jz))))] := hD
            obtain ⟨x_7, ex_7⟩ : ∃ y : Int32, y = k + 1 := ⟨_, rfl⟩
            refine lv_iinc (v := x_7) (lv' := [(4, .int x_7), (0, .ref mm), (1, .int x), (2, .int n), (3, .int (bI bk))]) hx hb d_Model_paint_53 hl (k := 0) rfl (by rw [ex_7]; rfl) (by decide) rfl (fun ls hl => ?_)
            replace ex_7 := ex_7.symm
            refine lv_goto (tgt := 37) hx hb d_Model_paint_56 (by decide) ?_
            have hF9 : f_Model_paint wd th lin x n bk = l_Model_paint_37 wd th lin x n bk n37 g_6 x_7 zth := (by subst eg_6 ex_7; exact (hF37.trans ((if_neg c_5).trans (rfl))))
            have hI9 : ¬ x_7 < 0 := (by subst eg_6 ex_7; exact nn_pt hwd c_1 c_2 c_3 c_4 hinv c_5)
            have hP9 := hP.sub (ws' := [(mm, .inr (7, [.ref mwr, .ref mbr, .ref mwb, .ref mbb, .ref mbl, .ref mmo, .int zth, .int (nI wd), .ref mli, .ref mab, .ref mou, .int bt, .int (bI cl), .int cd, .int c3.1, .int c3.2.1, .int c3.2.2, .ref mne, .int nx, .int w3.1, .int w3.2.1, .int w3.2.2, .ref mina, .int gv, .ref mrl, .ref mra, .int lns, .int ps, .int st, .int (bI tu)])), (mli, .inl (cZ, wd, .inl (fun jz => bI (g_6 jz))))]) [0, 1] rfl
            have hD9 := hD.sub (ws' := [(mm, .inr (7, [.ref mwr, .ref mbr, .ref mwb, .ref mbb, .ref mbl, .ref mmo, .int zth, .int (nI wd), .ref mli, .ref mab, .ref mou, .int bt, .int (bI cl), .int cd, .int c3.1, .int c3.2.1, .int c3.2.2, .ref mne, .int nx, .int w3.1, .int w3.2.1, .int w3.2.2, .ref mina, .int gv, .ref mrl, .ref mra, .int lns, .int ps, .int st, .int (bI tu)])), (mli, .inl (cZ, wd, .inl (fun jz => bI (g_6 jz))))]) [0, 1] (by decide) rfl
            have hl9 := lv_sub (l' := [(4, .int x_7), (0, .ref mm), (1, .int x), (2, .int n), (3, .int (bI bk))]) hl [0, 1, 2, 3, 4] rfl
            have hm9 : (Int32.toInt (x + n) - Int32.toInt x_7).toNat < (Int32.toInt (x + n) - Int32.toInt k).toNat := (by subst eg_6 ex_7; exact mu_b c_5)
            exact ih37 (g_6, x_7, zth) _ _ _ ⟨Nat.lt_of_lt_of_le hm9 (Nat.le_of_lt_succ hmu37), hF9, hI9, hP9, hD9, hS, hl9⟩
        · refine lv_iconst (v := 0) hx hb d_Model_paint_32 (by decide) ?_
          have hP9 := hP.sub (ws' := [(mm, .inr (7, [.ref mwr, .ref mbr, .ref mwb, .ref mbb, .ref mbl, .ref mmo, .int 0, .int (nI wd), .ref mli, .ref mab, .ref mou, .int bt, .int (bI cl), .int cd, .int c3.1, .int c3.2.1, .int c3.2.2, .ref mne, .int nx, .int w3.1, .int w3.2.1, .int w3.2.2, .ref mina, .int gv, .ref mrl, .ref mra, .int lns, .int ps, .int st, .int (bI tu)])), (mli, .inl (cZ, wd, .inl (fun jz => bI (lin jz))))]) [0, 1] rfl
          have hD9 := hD.sub (ws' := [(mm, .inr (7, [.ref mwr, .ref mbr, .ref mwb, .ref mbb, .ref mbl, .ref mmo, .int 0, .int (nI wd), .ref mli, .ref mab, .ref mou, .int bt, .int (bI cl), .int cd, .int c3.1, .int c3.2.1, .int c3.2.2, .ref mne, .int nx, .int w3.1, .int w3.2.1, .int w3.2.2, .ref mina, .int gv, .ref mrl, .ref mra, .int lns, .int ps, .int st, .int (bI tu)])), (mli, .inl (cZ, wd, .inl (fun jz => bI (lin jz))))]) [0, 1] (by decide) rfl
          have hK9 := hK
          exact W.zret (v := 0) hx hb hr rfl (fun t ht hW => ⟨⟨0, (0, lin), rfl, (by have h9 : f_Model_paint wd th lin x n bk = (0, (0, lin)) := (by exact ((if_neg c_1).trans ((if_neg c_2).trans ((if_neg c_3).trans ((if_neg c_4).trans (rfl)))))); exact ⟨(congrArg Prod.fst h9).symm, (congrArg Prod.snd h9).symm⟩), ⟨by rw [ht]; exact hP9, va_K.moved hW.alike hK9, hD9⟩⟩, hS.F ht⟩) hS.2.2 d_Model_paint_33
def l_Model_word_19 (nx : Int32) (nex : Nat → Bool) (w : Int32) : Nat → Int32 → (Nat → Bool) → Int32 → Int32 × (Nat → Bool)
  | 0, _, _, _ => default
  | n19 + 1, b, g, j => if j < 0 then ((b, g)) else (if ((w >>> (j &&& 31)) &&& 1) = 1 then (let g_8 := uB g b.toNatClampNeg true; let x_9 := b + 1; let x_10 := j + (-1); l_Model_word_19 nx nex w n19 x_9 g_8 x_10) else (let g_5 := uB g b.toNatClampNeg false; let x_6 := b + 1; let x_7 := j + (-1); l_Model_word_19 nx nex w n19 x_6 g_5 x_7))
def l_Model_word_2 (nx : Int32) (nex : Nat → Bool) (w : Int32) : Nat → Int32 → Int32 × (Nat → Bool)
  | 0, _ => default
  | n2 + 1, k => if (w >>> (k &&& 31)) ≤ 1 then (let x_2 := k - 1; l_Model_word_19 nx nex w ((Int32.toInt x_2 + 1).toNat + 1) nx nex x_2) else (let x_11 := k + 1; l_Model_word_2 nx nex w n2 x_11)
def f_Model_word (nx : Int32) (nex : Nat → Bool) (w : Int32) : Int32 × (Nat → Bool) := l_Model_word_2 nx nex w ((32 - Int32.toInt (0 : Int32)).toNat + 1) (0 : Int32)
set_option maxHeartbeats 4000000 in
set_option maxRecDepth 100000 in
theorem c_Model_word (l : Launch) (dC : Nat → ClassId) (dI : Nat → Nat → Nat) (cI cZ : ClassId) (mm : Nat) (mwr : Nat) (mbr : Nat) (mwb : Nat) (mbb : Nat) (mbl : Nat) (mmo : Nat) (mli : Nat) (mab : Nat) (mou : Nat) (mne : Nat) (mina : Nat) (mrl : Nat) (mra : Nat) (wd : Nat) (th : Int32) (bt : Int32) (cl : Bool) (cd : Int32) (c3 : Int32 × Int32 × Int32) (w3 : Int32 × Int32 × Int32) (gv : Int32) (lns : Int32) (ps : Int32) (st : Int32) (tu : Bool) (sz : Nat) (nx : Int32) (nex : Nat → Bool) (w : Int32) (hwd : wd ≤ 10000) (hnx : 0 ≤ nx.toInt ∧ nx.toInt ≤ 129969) : Met l y_Model_word w_Model_word ({ frames := 0, cells := 0, slots := 0, locals := 0 }) (va_Pc [.ref mm, .int w] (fun U => U.heap.size = sz ∧ va_P (dC, dI) classes [(mm, .inr (7, [.ref mwr, .ref mbr, .ref mwb, .ref mbb, .ref mbl, .ref mmo, .int th, .int (nI wd), .ref mli, .ref mab, .ref mou, .int bt, .int (bI cl), .int cd, .int c3.1, .int c3.2.1, .int c3.2.2, .ref mne, .int nx, .int w3.1, .int w3.2.1, .int w3.2.2, .ref mina, .int gv, .ref mrl, .ref mra, .int lns, .int ps, .int st, .int (bI tu)])), (mne, .inl (cZ, 130000, .inl (fun jz => bI (nex jz))))] U.heap ∧ va_K (dC, dI) classes [(cI, .int), (cZ, .boolean)] U ∧ va_D (fun _ => True) [(mm, .inr (7, [.ref mwr, .ref mbr, .ref mwb, .ref mbb, .ref mbl, .ref mmo, .int th, .int (nI wd), .ref mli, .ref mab, .ref mou, .int bt, .int (bI cl), .int cd, .int c3.1, .int c3.2.1, .int c3.2.2, .ref mne, .int nx, .int w3.1, .int w3.2.1, .int w3.2.2, .ref mina, .int gv, .ref mrl, .ref mra, .int lns, .int ps, .int st, .int (bI tu)])), (mne, .inl (cZ, 130000, .inl (fun jz => bI (nex jz))))])) (va_Qv (fun (u : Int32 × (Nat → Bool)) => u = f_Model_word nx nex w) (fun (u : Int32 × (Nat → Bool)) (t : State) => va_P (dC, dI) classes [(mm, .inr (7, [.ref mwr, .ref mbr, .ref mwb, .ref mbb, .ref mbl, .ref mmo, .int th, .int (nI wd), .ref mli, .ref mab, .ref mou, .int bt, .int (bI cl), .int cd, .int c3.1, .int c3.2.1, .int c3.2.2, .ref mne, .int u.1, .int w3.1, .int w3.2.1, .int w3.2.2, .ref mina, .int gv, .ref mrl, .ref mra, .int lns, .int ps, .int st, .int (bI tu)])), (mne, .inl (cZ, 130000, .inl (fun jz => bI (u.2 jz))))] t.heap ∧ va_K (dC, dI) classes [(cI, .int), (cZ, .boolean)] t ∧ va_D (va_A [(mm, .inr (7, [.ref mwr, .ref mbr, .ref mwb, .ref mbb, .ref mbl, .ref mmo, .int th, .int (nI wd), .ref mli, .ref mab, .ref mou, .int bt, .int (bI cl), .int cd, .int c3.1, .int c3.2.1, .int c3.2.2, .ref mne, .int nx, .int w3.1, .int w3.2.1, .int w3.2.2, .ref mina, .int gv, .ref mrl, .ref mra, .int lns, .int ps, .int st, .int (bI tu)])), (mne, .inl (cZ, 130000, .inl (fun jz => bI (nex jz))))] sz) [(mm, .inr (7, [.ref mwr, .ref mbr, .ref mwb, .ref mbb, .ref mbl, .ref mmo, .int th, .int (nI wd), .ref mli, .ref mab, .ref mou, .int bt, .int (bI cl), .int cd, .int c3.1, .int c3.2.1, .int c3.2.2, .ref mne, .int u.1, .int w3.1, .int w3.2.1, .int w3.2.2, .ref mina, .int gv, .ref mrl, .ref mra, .int lns, .int ps, .int st, .int (bI tu)])), (mne, .inl (cZ, 130000, .inl (fun jz => bI (u.2 jz))))]) (va_A [(mm, .inr (7, [.ref mwr, .ref mbr, .ref mwb, .ref mbb, .ref mbl, .ref mmo, .int th, .int (nI wd), .ref mli, .ref mab, .ref mou, .int bt, .int (bI cl), .int cd, .int c3.1, .int c3.2.1, .int c3.2.2, .ref mne, .int nx, .int w3.1, .int w3.2.1, .int w3.2.2, .ref mina, .int gv, .ref mrl, .ref mra, .int lns, .int ps, .int st, .int (bI tu)])), (mne, .inl (cZ, 130000, .inl (fun jz => bI (nex jz))))] sz)) 0 0 (va_A [(mm, .inr (7, [.ref mwr, .ref mbr, .ref mwb, .ref mbb, .ref mbl, .ref mmo, .int th, .int (nI wd), .ref mli, .ref mab, .ref mou, .int bt, .int (bI cl), .int cd, .int c3.1, .int c3.2.1, .int c3.2.2, .ref mne, .int nx, .int w3.1, .int w3.2.1, .int w3.2.2, .ref mina, .int gv, .ref mrl, .ref mra, .int lns, .int ps, .int st, .int (bI tu)])), (mne, .inl (cZ, 130000, .inl (fun jz => bI (nex jz))))] sz) := by
  refine Met.ofW (cc := b_Model_word) (maxL := 4) (ret := none) (by decide) rfl ?_
  intro p e s m args below meth c s₁ B hml hv
  obtain ⟨rfl, hsz, hP, hK, hD0⟩ := hv
  have hx := B.exec
  have hb := B.bytes
  have hr := B.returns
  have hts := atoms_spec (ws := w_Model_word) B.pre
  have hw : ∀ w ∈ WA, w.before _ s = true := fun w h => hts w (List.mem_cons_of_mem _ h)
  have hown : s.vm.findClass R_Model = some m.cls := findClass_of_methodNamed B.named
  have hlocks := B.notSynchronized
  subst hsz
  have hD := hD0.self (sz := s.heap.size)
  generalize hAe : va_A [(mm, .inr (7, [.ref mwr, .ref mbr, .ref mwb, .ref mbb, .ref mbl, .ref mmo, .int th, .int (nI wd), .ref mli, .ref mab, .ref mou, .int bt, .int (bI cl), .int cd, .int c3.1, .int c3.2.1, .int c3.2.2, .ref mne, .int nx, .int w3.1, .int w3.2.1, .int w3.2.2, .ref mina, .int gv, .ref mrl, .ref mra, .int lns, .int ps, .int st, .int (bI tu)])), (mne, .inl (cZ, 130000, .inl (fun jz => bI (nex jz))))] s.heap.size = A at hD ⊢
  have hA : ∀ q : Nat, s.heap.size ≤ q → A q := fun q h => by rw [← hAe]; exact Or.inr h
  have hS : va_S A s.heap s.heap [] := va_S.rf
  have hP : va_P (dC, dI) classes [(mm, .inr (7, [.ref mwr, .ref mbr, .ref mwb, .ref mbb, .ref mbl, .ref mmo, .int th, .int (nI wd), .ref mli, .ref mab, .ref mou, .int bt, .int (bI cl), .int cd, .int c3.1, .int c3.2.1, .int c3.2.2, .ref mne, .int nx, .int w3.1, .int w3.2.1, .int w3.2.2, .ref mina, .int gv, .ref mrl, .ref mra, .int lns, .int ps, .int st, .int (bI tu)])), (mne, .inl (cZ, 130000, .inl (fun jz => bI (nex jz))))] s.heap := hP
  have hl := lv_entry ([.ref mm, .int w]) (n := 4) (Nat.le_of_ble_eq_true rfl)
  rw [lg_entry_eq]
  generalize (lg_sl ([.ref mm, .int w]) ++ List.replicate (4 - (lg_sl ([.ref mm, .int w])).length) Slot.unset).toArray = ls at hl ⊢
  have hl : lv_has ls 4 [(0, .ref mm), (1, .int w)] := hl
  refine lv_iconst (v := 0) hx hb d_Model_word_0 (by decide) ?_
  refine lv_istore_n (lv' := [(2, .int 0), (0, .ref mm), (1, .int w)]) hx hb d_Model_word_1 rfl hl (by decide) rfl (fun ls hl => ?_)
  have hF9 : f_Model_word nx nex w = l_Model_word_2 nx nex w ((32 - Int32.toInt (0 : Int32)).toNat + 1) (0 : Int32) := (by exact (rfl))
  have hI9 : 0 ≤ Int32.toInt (0 : Int32) ∧ Int32.toInt (0 : Int32) ≤ 31 := (by exact ⟨by decide, by decide⟩)
  have hP9 := hP.sub (ws' := [(mm, .inr (7, [.ref mwr, .ref mbr, .ref mwb, .ref mbb, .ref mbl, .ref mmo, .int th, .int (nI wd), .ref mli, .ref mab, .ref mou, .int bt, .int (bI cl), .int cd, .int c3.1, .int c3.2.1, .int c3.2.2, .ref mne, .int nx, .int w3.1, .int w3.2.1, .int w3.2.2, .ref mina, .int gv, .ref mrl, .ref mra, .int lns, .int ps, .int st, .int (bI tu)])), (mne, .inl (cZ, 130000, .inl (fun jz => bI (nex jz))))]) [0, 1] rfl
  have hD9 := hD.sub (ws' := [(mm, .inr (7, [.ref mwr, .ref mbr, .ref mwb, .ref mbb, .ref mbl, .ref mmo, .int th, .int (nI wd), .ref mli, .ref mab, .ref mou, .int bt, .int (bI cl), .int cd, .int c3.1, .int c3.2.1, .int c3.2.2, .ref mne, .int nx, .int w3.1, .int w3.2.1, .int w3.2.2, .ref mina, .int gv, .ref mrl, .ref mra, .int lns, .int ps, .int st, .int (bI tu)])), (mne, .inl (cZ, 130000, .inl (fun jz => bI (nex jz))))]) [0, 1] (by decide) rfl
  have hl9 := lv_sub (l' := [(2, .int 0), (0, .ref mm), (1, .int w)]) hl [0, 1, 2] rfl
  refine lp_n (pc := 2) (σ := Int32) (I := fun nQ vQ H locs ls => (32 - Int32.toInt vQ).toNat < nQ ∧ f_Model_word nx nex w = l_Model_word_2 nx nex w nQ vQ ∧ (0 ≤ Int32.toInt vQ ∧ Int32.toInt vQ ≤ 31) ∧ va_P (dC, dI) classes [(mm, .inr (7, [.ref mwr, .ref mbr, .ref mwb, .ref mbb, .ref mbl, .ref mmo, .int th, .int (nI wd), .ref mli, .ref mab, .ref mou, .int bt, .int (bI cl), .int cd, .int c3.1, .int c3.2.1, .int c3.2.2, .ref mne, .int nx, .int w3.1, .int w3.2.1, .int w3.2.2, .ref mina, .int gv, .ref mrl, .ref mra, .int lns, .int ps, .int st, .int (bI tu)])), (mne, .inl (cZ, 130000, .inl (fun jz => bI (nex jz))))] H ∧ va_D A [(mm, .inr (7, [.ref mwr, .ref mbr, .ref mwb, .ref mbb, .ref mbl, .ref mmo, .int th, .int (nI wd), .ref mli, .ref mab, .ref mou, .int bt, .int (bI cl), .int cd, .int c3.1, .int c3.2.1, .int c3.2.2, .ref mne, .int nx, .int w3.1, .int w3.2.1, .int w3.2.2, .ref mina, .int gv, .ref mrl, .ref mra, .int lns, .int ps, .int st, .int (bI tu)])), (mne, .inl (cZ, 130000, .inl (fun jz => bI (nex jz))))] ∧ va_S A s.heap H locs ∧ lv_has ls 4 [(2, .int vQ), (0, .ref mm), (1, .int w)]) (fun vQ H locs ls h => absurd h.1 (Nat.not_lt_zero _)) ?_ ((32 - Int32.toInt (0 : Int32)).toNat + 1) (0 : Int32) _ _ _ ⟨Nat.lt_succ_self _, hF9, hI9, hP9, hD9, hS, hl9⟩
  intro n2 ih2 vQ H locs ls hI
  obtain ⟨k, rfl⟩ : ∃ z, z = vQ := ⟨_, rfl⟩
  obtain ⟨hmu2, hF2, hinv, hP, hD, hS, hl⟩ := hI
  have hinv : 0 ≤ Int32.toInt k ∧ Int32.toInt k ≤ 31 := hinv
  obtain ⟨hj1, hj2⟩ := hinv
  have hmu2 : (32 - Int32.toInt k).toNat < n2 + 1 := hmu2
  have hF2 : f_Model_word nx nex w = l_Model_word_2 nx nex w (n2 + 1) k := hF2
  have hP : va_P (dC, dI) classes [(mm, .inr (7, [.ref mwr, .ref mbr, .ref mwb, .ref mbb, .ref mbl, .ref mmo, .int th, .int (nI wd), .ref mli, .ref mab, .ref mou, .int bt, .int (bI cl), .int cd, .int c3.1, .int c3.2.1, .int c3.2.2, .ref mne, .int nx, .int w3.1, .int w3.2.1, .int w3.2.2, .ref mina, .int gv, .ref mrl, .ref mra, .int lns, .int ps, .int st, .int (bI tu)])), (mne, .inl (cZ, 130000, .inl (fun jz => bI (nex jz))))] H := hP
  have hD : va_D A [(mm, .inr (7, [.ref mwr, .ref mbr, .ref mwb, .ref mbb, .ref mbl, .ref mmo, .int th, .int (nI wd), .ref mli, .ref mab, .ref mou, .int bt, .int (bI cl), .int cd, .int c3.1, .int c3.2.1, .int c3.2.2, .ref mne, .int nx, .int w3.1, .int w3.2.1, .int w3.2.2, .ref mina, .int gv, .ref mrl, .ref mra, .int lns, .int ps, .int st, .int (bI tu)])), (mne, .inl (cZ, 130000, .inl (fun jz => bI (nex jz))))] := hD
  have hl : lv_has ls 4 [(2, .int k), (0, .ref mm), (1, .int w)] := hl
  refine lv_iload_n hx hb d_Model_word_2 rfl (lv_at hl 2 rfl) ?_
  refine lv_iload_n hx hb d_Model_word_3 rfl (lv_at hl 0 rfl) ?_
  refine lv_ishr hx hb d_Model_word_4 ?_
  refine lv_iconst (v := 1) hx hb d_Model_word_5 (by decide) ?_
  refine lv_icmp_le (tgt := 15) hx hb d_Model_word_6 (by decide) (fun c_1 => ?_) (fun c_1 => ?_)
  · refine lv_iload_n hx hb d_Model_word_15 rfl (lv_at hl 0 rfl) ?_
    refine lv_iconst (v := 1) hx hb d_Model_word_16 (by decide) ?_
    refine lv_isub hx hb d_Model_word_17 ?_
    refine lv_topi (fun x_2 ex_2 => ?_)
    replace ex_2 := ex_2.symm
    refine lv_istore_n (lv' := [(3, .int x_2), (2, .int k), (0, .ref mm), (1, .int w)]) hx hb d_Model_word_18 rfl hl (by decide) rfl (fun ls hl => ?_)
    have hF9 : f_Model_word nx nex w = l_Model_word_19 nx nex w ((Int32.toInt x_2 + 1).toNat + 1) nx nex x_2 := (by subst ex_2; exact (hF2.trans ((if_pos c_1).trans (rfl))))
    have hI9 : 0 ≤ Int32.toInt nx ∧ Int32.toInt nx + Int32.toInt x_2 + 1 ≤ 130000 ∧ -1 ≤ Int32.toInt x_2 ∧ Int32.toInt x_2 ≤ 30 := (by subst ex_2; rw [ti_sub (by rw [ti_1]; omega) (by rw [ti_1]; omega), ti_1]; omega)
    have hP9 := hP.sub (ws' := [(mm, .inr (7, [.ref mwr, .ref mbr, .ref mwb, .ref mbb, .ref mbl, .ref mmo, .int th, .int (nI wd), .ref mli, .ref mab, .ref mou, .int bt, .int (bI cl), .int cd, .int c3.1, .int c3.2.1, .int c3.2.2, .ref mne, .int nx, .int w3.1, .int w3.2.1, .int w3.2.2, .ref mina, .int gv, .ref mrl, .ref mra, .int lns, .int ps, .int st, .int (bI tu)])), (mne, .inl (cZ, 130000, .inl (fun jz => bI (nex jz))))]) [0, 1] rfl
    have hD9 := hD.sub (ws' := [(mm, .inr (7, [.ref mwr, .ref mbr, .ref mwb, .ref mbb, .ref mbl, .ref mmo, .int th, .int (nI wd), .ref mli, .ref mab, .ref mou, .int bt, .int (bI cl), .int cd, .int c3.1, .int c3.2.1, .int c3.2.2, .ref mne, .int nx, .int w3.1, .int w3.2.1, .int w3.2.2, .ref mina, .int gv, .ref mrl, .ref mra, .int lns, .int ps, .int st, .int (bI tu)])), (mne, .inl (cZ, 130000, .inl (fun jz => bI (nex jz))))]) [0, 1] (by decide) rfl
    have hl9 := lv_sub (l' := [(3, .int x_2), (0, .ref mm), (1, .int w)]) hl [0, 2, 3] rfl
    refine lp_n (pc := 19) (σ := Int32 × (Nat → Bool) × Int32) (I := fun nQ vQ H locs ls => (Int32.toInt vQ.2.2 + 1).toNat < nQ ∧ f_Model_word nx nex w = l_Model_word_19 nx nex w nQ vQ.1 vQ.2.1 vQ.2.2 ∧ (0 ≤ Int32.toInt vQ.1 ∧ Int32.toInt vQ.1 + Int32.toInt vQ.2.2 + 1 ≤ 130000 ∧ -1 ≤ Int32.toInt vQ.2.2 ∧ Int32.toInt vQ.2.2 ≤ 30) ∧ va_P (dC, dI) classes [(mm, .inr (7, [.ref mwr, .ref mbr, .ref mwb, .ref mbb, .ref mbl, .ref mmo, .int th, .int (nI wd), .ref mli, .ref mab, .ref mou, .int bt, .int (bI cl), .int cd, .int c3.1, .int c3.2.1, .int c3.2.2, .ref mne, .int vQ.1, .int w3.1, .int w3.2.1, .int w3.2.2, .ref mina, .int gv, .ref mrl, .ref mra, .int lns, .int ps, .int st, .int (bI tu)])), (mne, .inl (cZ, 130000, .inl (fun jz => bI (vQ.2.1 jz))))] H ∧ va_D A [(mm, .inr (7, [.ref mwr, .ref mbr, .ref mwb, .ref mbb, .ref mbl, .ref mmo, .int th, .int (nI wd), .ref mli, .ref mab, .ref mou, .int bt, .int (bI cl), .int cd, .int c3.1, .int c3.2.1, .int c3.2.2, .ref mne, .int vQ.1, .int w3.1, .int w3.2.1, .int w3.2.2, .ref mina, .int gv, .ref mrl, .ref mra, .int lns, .int ps, .int st, .int (bI tu)])), (mne, .inl (cZ, 130000, .inl (fun jz => bI (vQ.2.1 jz))))] ∧ va_S A s.heap H locs ∧ lv_has ls 4 [(3, .int vQ.2.2), (0, .ref mm), (1, .int w)]) (fun vQ H locs ls h => absurd h.1 (Nat.not_lt_zero _)) ?_ ((Int32.toInt x_2 + 1).toNat + 1) (nx, nex, x_2) _ _ _ ⟨Nat.lt_succ_self _, hF9, hI9, hP9, hD9, hS, hl9⟩
    intro n19 ih19 vQ H locs ls hI
    obtain ⟨b, g, j⟩ := vQ
    obtain ⟨hmu19, hF19, hinv, hP, hD, hS, hl⟩ := hI
    have hinv : 0 ≤ Int32.toInt b ∧ Int32.toInt b + Int32.toInt j + 1 ≤ 130000 ∧ -1 ≤ Int32.toInt j ∧ Int32.toInt j ≤ 30 := hinv
    obtain ⟨hi1, hi2, hi3, hi4⟩ := hinv
    have hmu19 : (Int32.toInt j + 1).toNat < n19 + 1 := hmu19
    have hF19 : f_Model_word nx nex w = l_Model_word_19 nx nex w (n19 + 1) b g j := hF19
    have hP : va_P (dC, dI) classes [(mm, .inr (7, [.ref mwr, .ref mbr, .ref mwb, .ref mbb, .ref mbl, .ref mmo, .int th, .int (nI wd), .ref mli, .ref mab, .ref mou, .int bt, .int (bI cl), .int cd, .int c3.1, .int c3.2.1, .int c3.2.2, .ref mne, .int b, .int w3.1, .int w3.2.1, .int w3.2.2, .ref mina, .int gv, .ref mrl, .ref mra, .int lns, .int ps, .int st, .int (bI tu)])), (mne, .inl (cZ, 130000, .inl (fun jz => bI (g jz))))] H := hP
    have hD : va_D A [(mm, .inr (7, [.ref mwr, .ref mbr, .ref mwb, .ref mbb, .ref mbl, .ref mmo, .int th, .int (nI wd), .ref mli, .ref mab, .ref mou, .int bt, .int (bI cl), .int cd, .int c3.1, .int c3.2.1, .int c3.2.2, .ref mne, .int b, .int w3.1, .int w3.2.1, .int w3.2.2, .ref mina, .int gv, .ref mrl, .ref mra, .int lns, .int ps, .int st, .int (bI tu)])), (mne, .inl (cZ, 130000, .inl (fun jz => bI (g jz))))] := hD
    have hl : lv_has ls 4 [(3, .int j), (0, .ref mm), (1, .int w)] := hl
    refine lv_iload_n hx hb d_Model_word_19 rfl (lv_at hl 0 rfl) ?_
    refine lv_if_lt (tgt := 62) hx hb d_Model_word_20 (by decide) (fun c_3 => ?_) (fun c_3 => ?_)
    · have hP9 := hP.sub (ws' := [(mm, .inr (7, [.ref mwr, .ref mbr, .ref mwb, .ref mbb, .ref mbl, .ref mmo, .int th, .int (nI wd), .ref mli, .ref mab, .ref mou, .int bt, .int (bI cl), .int cd, .int c3.1, .int c3.2.1, .int c3.2.2, .ref mne, .int b, .int w3.1, .int w3.2.1, .int w3.2.2, .ref mina, .int gv, .ref mrl, .ref mra, .int lns, .int ps, .int st, .int (bI tu)])), (mne, .inl (cZ, 130000, .inl (fun jz => bI (g jz))))]) [0, 1] rfl
      have hD9 := hD.sub (ws' := [(mm, .inr (7, [.ref mwr, .ref mbr, .ref mwb, .ref mbb, .ref mbl, .ref mmo, .int th, .int (nI wd), .ref mli, .ref mab, .ref mou, .int bt, .int (bI cl), .int cd, .int c3.1, .int c3.2.1, .int c3.2.2, .ref mne, .int b, .int w3.1, .int w3.2.1, .int w3.2.2, .ref mina, .int gv, .ref mrl, .ref mra, .int lns, .int ps, .int st, .int (bI tu)])), (mne, .inl (cZ, 130000, .inl (fun jz => bI (g jz))))]) [0, 1] (by decide) rfl
      have hK9 := hK
      exact W.vret hx hb hr (fun t ht hW => ⟨⟨(b, g), rfl, (by have h9 : f_Model_word nx nex w = (b, g) := (by exact (hF19.trans ((if_pos c_3).trans (rfl)))); exact h9.symm), ⟨by rw [ht]; exact hP9, va_K.moved hW.alike hK9, hD9⟩⟩, hS.F ht⟩) hS.2.2 d_Model_word_62
    · refine lv_aload_n hx hb d_Model_word_23 rfl (lv_at hl 1 rfl) ?_
      refine va_get (D := (dC, dI)) (ci := 7) (v := .ref mne) (C := R_Model) (T := F_Model) (N := 30) hx hb hw i_Model hown hK hP 0 rfl rfl 17 (by decide) (hw _ m_681) (fun _ h9 => h9) rfl d_Model_word_24 ?_
      refine lv_aload_n hx hb d_Model_word_27 rfl (lv_at hl 1 rfl) ?_
      refine va_get (D := (dC, dI)) (ci := 7) (v := .int b) (C := R_Model) (T := F_Model) (N := 30) hx hb hw i_Model hown hK hP 0 rfl rfl 18 (by decide) (hw _ m_682) (fun _ h9 => h9) rfl d_Model_word_28 ?_
      refine lv_iload_n hx hb d_Model_word_31 rfl (lv_at hl 2 rfl) ?_
      refine lv_iload_n hx hb d_Model_word_32 rfl (lv_at hl 0 rfl) ?_
      refine lv_ishr hx hb d_Model_word_33 ?_
      refine lv_iconst (v := 1) hx hb d_Model_word_34 (by decide) ?_
      refine lv_iand hx hb d_Model_word_35 ?_
      refine lv_iconst (v := 1) hx hb d_Model_word_36 (by decide) ?_
      refine lv_icmp_ne (tgt := 44) hx hb d_Model_word_37 (by decide) (fun c_4 => ?_) (fun c_4 => ?_)
      · refine lv_iconst (v := 0) hx hb d_Model_word_44 (by decide) ?_
        refine va_zast (x := bI false) hx hb hK hP hD hS 1 1 rfl rfl (by have h9 := c_3; rw [ti_lt, ti_0] at h9; exact ti_in (by omega) (by omega)) d_Model_word_45 (fun H locs hP hD hS => ?_)
        rw [zupd] at hP hD
        obtain ⟨g_5, eg_5⟩ : ∃ y : Nat → Bool, y = uB g b.toNatClampNeg false := ⟨_, rfl⟩
        rw [← eg_5] at hP hD
        replace eg_5 := eg_5.symm
        have hP : va_P (dC, dI) classes [(mm, .inr (7, [.ref mwr, .ref mbr, .ref mwb, .ref mbb, .ref mbl, .ref mmo, .int th, .int (nI wd), .ref mli, .ref mab, .ref mou, .int bt, .int (bI cl), .int cd, .int c3.1, .int c3.2.1, .int c3.2.2, .ref mne, .int b, .int w3.1, .int w3.2.1, .int w3.2.2, .ref mina, .int gv, .ref mrl, .ref mra, .int lns, .int ps, .int st, .int (bI tu)])), (mne, .inl (cZ, 130000, .inl (fun jz => bI (g_5 jz))))] H := hP
        have hD : va_D A [(mm, .inr (7, [.ref mwr, .ref mbr, .ref mwb, .ref mbb, .ref mbl, .ref mmo, .int th, .int (nI wd), .ref mli, .ref mab, .ref mou, .int bt, .int (bI cl), .int cd, .int c3.1, .int c3.2.1, .int c3.2.2, .ref mne, .int b, .int w3.1, .int w3.2.1, .int w3.2.2, .ref mina, .int gv, .ref mrl, .ref mra, .int lns, .int ps, .int st, .int (bI tu)])), (mne, .inl (cZ, 130000, .inl (fun jz => bI (g_5 jz))))] := hD
        refine lv_aload_n hx hb d_Model_word_46 rfl (lv_at hl 1 rfl) ?_
        refine lv_dup hx hb d_Model_word_47 rfl ?_
        refine va_get (D := (dC, dI)) (ci := 7) (v := .int b) (C := R_Model) (T := F_Model) (N := 30) hx hb hw i_Model hown hK hP 0 rfl rfl 18 (by decide) (hw _ m_682) (fun _ h9 => h9) rfl d_Model_word_48 ?_
        refine lv_iconst (v := 1) hx hb d_Model_word_51 (by decide) ?_
        refine lv_iadd hx hb d_Model_word_52 ?_
        refine lv_topi (fun x_6 ex_6 => ?_)
        replace ex_6 := ex_6.symm
        refine va_put (D := (dC, dI)) (ci := 7) (v := .int x_6) (ty := .int) (C := R_Model) (T := F_Model) (N := 30) hx hb hw i_Model t_Model t_Model_ok n_Model hown hK hP hD hS 0 rfl rfl 18 (by decide) (hw _ m_682) (fun _ h9 => h9) rfl (by decide +kernel) rfl rfl (Nat.le_of_ble_eq_true rfl) d_Model_word_53 (fun H locs hP hD hS => ?_)
        have hP : va_P (dC, dI) classes [(mm, .inr (7, [.ref mwr, .ref mbr, .ref mwb, .ref mbb, .ref mbl, .ref mmo, .int th, .int (nI wd), .ref mli, .ref mab, .ref mou, .int bt, .int (bI cl), .int cd, .int c3.1, .int c3.2.1, .int c3.2.2, .ref mne, .int x_6, .int w3.1, .int w3.2.1, .int w3.2.2, .ref mina, .int gv, .ref mrl, .ref mra, .int lns, .int ps, .int st, .int (bI tu)])), (mne, .inl (cZ, 130000, .inl (fun jz => bI (g_5 jz))))] H := hP
        have hD : va_D A [(mm, .inr (7, [.ref mwr, .ref mbr, .ref mwb, .ref mbb, .ref mbl, .ref mmo, .int th, .int (nI wd), .ref mli, .ref mab, .ref mou, .int bt, .int (bI cl), .int cd, .int c3.1, .int c3.2.1, .int c3.2.2, .ref mne, .int x_6, .int w3.1, .int w3.2.1, .int w3.2.2, .ref mina, .int gv, .ref mrl, .ref mra, .int lns, .int ps, .int st, .int (bI tu)])), (mne, .inl (cZ, 130000, .inl (fun jz => bI (g_5 jz))))] := hD
        obtain ⟨x_7, ex_7⟩ : ∃ y : Int32, y = j + (-1) := ⟨_, rfl⟩
        refine lv_iinc (v := x_7) (lv' := [(3, .int x_7), (0, .ref mm), (1, .int w)]) hx hb d_Model_word_56 hl (k := 0) rfl (by rw [ex_7]; rfl) (by decide) rfl (fun ls hl => ?_)
        replace ex_7 := ex_7.symm
        refine lv_goto (tgt := 19) hx hb d_Model_word_59 (by decide) ?_
        have hF9 : f_Model_word nx nex w = l_Model_word_19 nx nex w n19 x_6 g_5 x_7 := (by subst eg_5 ex_6 ex_7; exact (hF19.trans ((if_neg c_3).trans ((if_neg c_4).trans (rfl)))))
        have hI9 : 0 ≤ Int32.toInt x_6 ∧ Int32.toInt x_6 + Int32.toInt x_7 + 1 ≤ 130000 ∧ -1 ≤ Int32.toInt x_7 ∧ Int32.toInt x_7 ≤ 30 := (by subst eg_5 ex_6 ex_7; have h9 := c_3; rw [ti_lt, ti_0] at h9; rw [ti_add (a := j) (by rw [ti_m1]; omega) (by rw [ti_m1]; omega), ti_m1, ti_add (by rw [ti_1]; omega) (by rw [ti_1]; omega), ti_1]; omega)
        have hP9 := hP.sub (ws' := [(mm, .inr (7, [.ref mwr, .ref mbr, .ref mwb, .ref mbb, .ref mbl, .ref mmo, .int th, .int (nI wd), .ref mli, .ref mab, .ref mou, .int bt, .int (bI cl), .int cd, .int c3.1, .int c3.2.1, .int c3.2.2, .ref mne, .int x_6, .int w3.1, .int w3.2.1, .int w3.2.2, .ref mina, .int gv, .ref mrl, .ref mra, .int lns, .int ps, .int st, .int (bI tu)])), (mne, .inl (cZ, 130000, .inl (fun jz => bI (g_5 jz))))]) [0, 1] rfl
        have hD9 := hD.sub (ws' := [(mm, .inr (7, [.ref mwr, .ref mbr, .ref mwb, .ref mbb, .ref mbl, .ref mmo, .int th, .int (nI wd), .ref mli, .ref mab, .ref mou, .int bt, .int (bI cl), .int cd, .int c3.1, .int c3.2.1, .int c3.2.2, .ref mne, .int x_6, .int w3.1, .int w3.2.1, .int w3.2.2, .ref mina, .int gv, .ref mrl, .ref mra, .int lns, .int ps, .int st, .int (bI tu)])), (mne, .inl (cZ, 130000, .inl (fun jz => bI (g_5 jz))))]) [0, 1] (by decide) rfl
        have hl9 := lv_sub (l' := [(3, .int x_7), (0, .ref mm), (1, .int w)]) hl [0, 1, 2] rfl
        have hm9 : (Int32.toInt x_7 + 1).toNat < (Int32.toInt j + 1).toNat := (by subst eg_5 ex_6 ex_7; have h9 := c_3; rw [ti_lt, ti_0] at h9; rw [ti_add (by rw [ti_m1]; omega) (by rw [ti_m1]; omega), ti_m1]; omega)
        exact ih19 (x_6, g_5, x_7) _ _ _ ⟨Nat.lt_of_lt_of_le hm9 (Nat.le_of_lt_succ hmu19), hF9, hI9, hP9, hD9, hS, hl9⟩
      · refine lv_iconst (v := 1) hx hb d_Model_word_40 (by decide) ?_
        refine lv_goto (tgt := 45) hx hb d_Model_word_41 (by decide) ?_
        refine va_zast (x := bI true) hx hb hK hP hD hS 1 1 rfl rfl (by have h9 := c_3; rw [ti_lt, ti_0] at h9; exact ti_in (by omega) (by omega)) d_Model_word_45 (fun H locs hP hD hS => ?_)
        rw [zupd] at hP hD
        obtain ⟨g_8, eg_8⟩ : ∃ y : Nat → Bool, y = uB g b.toNatClampNeg true := ⟨_, rfl⟩
        rw [← eg_8] at hP hD
        replace eg_8 := eg_8.symm
        have hP : va_P (dC, dI) classes [(mm, .inr (7, [.ref mwr, .ref mbr, .ref mwb, .ref mbb, .ref mbl, .ref mmo, .int th, .int (nI wd), .ref mli, .ref mab, .ref mou, .int bt, .int (bI cl), .int cd, .int c3.1, .int c3.2.1, .int c3.2.2, .ref mne, .int b, .int w3.1, .int w3.2.1, .int w3.2.2, .ref mina, .int gv, .ref mrl, .ref mra, .int lns, .int ps, .int st, .int (bI tu)])), (mne, .inl (cZ, 130000, .inl (fun jz => bI (g_8 jz))))] H := hP
        have hD : va_D A [(mm, .inr (7, [.ref mwr, .ref mbr, .ref mwb, .ref mbb, .ref mbl, .ref mmo, .int th, .int (nI wd), .ref mli, .ref mab, .ref mou, .int bt, .int (bI cl), .int cd, .int c3.1, .int c3.2.1, .int c3.2.2, .ref mne, .int b, .int w3.1, .int w3.2.1, .int w3.2.2, .ref mina, .int gv, .ref mrl, .ref mra, .int lns, .int ps, .int st, .int (bI tu)])), (mne, .inl (cZ, 130000, .inl (fun jz => bI (g_8 jz))))] := hD
        refine lv_aload_n hx hb d_Model_word_46 rfl (lv_at hl 1 rfl) ?_
        refine lv_dup hx hb d_Model_word_47 rfl ?_
        refine va_get (D := (dC, dI)) (ci := 7) (v := .int b) (C := R_Model) (T := F_Model) (N := 30) hx hb hw i_Model hown hK hP 0 rfl rfl 18 (by decide) (hw _ m_682) (fun _ h9 => h9) rfl d_Model_word_48 ?_
        refine lv_iconst (v := 1) hx hb d_Model_word_51 (by decide) ?_
        refine lv_iadd hx hb d_Model_word_52 ?_
        refine lv_topi (fun x_9 ex_9 => ?_)
        replace ex_9 := ex_9.symm
        refine va_put (D := (dC, dI)) (ci := 7) (v := .int x_9) (ty := .int) (C := R_Model) (T := F_Model) (N := 30) hx hb hw i_Model t_Model t_Model_ok n_Model hown hK hP hD hS 0 rfl rfl 18 (by decide) (hw _ m_682) (fun _ h9 => h9) rfl (by decide +kernel) rfl rfl (Nat.le_of_ble_eq_true rfl) d_Model_word_53 (fun H locs hP hD hS => ?_)
        have hP : va_P (dC, dI) classes [(mm, .inr (7, [.ref mwr, .ref mbr, .ref mwb, .ref mbb, .ref mbl, .ref mmo, .int th, .int (nI wd), .ref mli, .ref mab, .ref mou, .int bt, .int (bI cl), .int cd, .int c3.1, .int c3.2.1, .int c3.2.2, .ref mne, .int x_9, .int w3.1, .int w3.2.1, .int w3.2.2, .ref mina, .int gv, .ref mrl, .ref mra, .int lns, .int ps, .int st, .int (bI tu)])), (mne, .inl (cZ, 130000, .inl (fun jz => bI (g_8 jz))))] H := hP
        have hD : va_D A [(mm, .inr (7, [.ref mwr, .ref mbr, .ref mwb, .ref mbb, .ref mbl, .ref mmo, .int th, .int (nI wd), .ref mli, .ref mab, .ref mou, .int bt, .int (bI cl), .int cd, .int c3.1, .int c3.2.1, .int c3.2.2, .ref mne, .int x_9, .int w3.1, .int w3.2.1, .int w3.2.2, .ref mina, .int gv, .ref mrl, .ref mra, .int lns, .int ps, .int st, .int (bI tu)])), (mne, .inl (cZ, 130000, .inl (fun jz => bI (g_8 jz))))] := hD
        obtain ⟨x_10, ex_10⟩ : ∃ y : Int32, y = j + (-1) := ⟨_, rfl⟩
        refine lv_iinc (v := x_10) (lv' := [(3, .int x_10), (0, .ref mm), (1, .int w)]) hx hb d_Model_word_56 hl (k := 0) rfl (by rw [ex_10]; rfl) (by decide) rfl (fun ls hl => ?_)
        replace ex_10 := ex_10.symm
        refine lv_goto (tgt := 19) hx hb d_Model_word_59 (by decide) ?_
        have hF9 : f_Model_word nx nex w = l_Model_word_19 nx nex w n19 x_9 g_8 x_10 := (by subst eg_8 ex_9 ex_10; exact (hF19.trans ((if_neg c_3).trans ((if_pos c_4).trans (rfl)))))
        have hI9 : 0 ≤ Int32.toInt x_9 ∧ Int32.toInt x_9 + Int32.toInt x_10 + 1 ≤ 130000 ∧ -1 ≤ Int32.toInt x_10 ∧ Int32.toInt x_10 ≤ 30 := (by subst eg_8 ex_9 ex_10; have h9 := c_3; rw [ti_lt, ti_0] at h9; rw [ti_add (a := j) (by rw [ti_m1]; omega) (by rw [ti_m1]; omega), ti_m1, ti_add (by rw [ti_1]; omega) (by rw [ti_1]; omega), ti_1]; omega)
        have hP9 := hP.sub (ws' := [(mm, .inr (7, [.ref mwr, .ref mbr, .ref mwb, .ref mbb, .ref mbl, .ref mmo, .int th, .int (nI wd), .ref mli, .ref mab, .ref mou, .int bt, .int (bI cl), .int cd, .int c3.1, .int c3.2.1, .int c3.2.2, .ref mne, .int x_9, .int w3.1, .int w3.2.1, .int w3.2.2, .ref mina, .int gv, .ref mrl, .ref mra, .int lns, .int ps, .int st, .int (bI tu)])), (mne, .inl (cZ, 130000, .inl (fun jz => bI (g_8 jz))))]) [0, 1] rfl
        have hD9 := hD.sub (ws' := [(mm, .inr (7, [.ref mwr, .ref mbr, .ref mwb, .ref mbb, .ref mbl, .ref mmo, .int th, .int (nI wd), .ref mli, .ref mab, .ref mou, .int bt, .int (bI cl), .int cd, .int c3.1, .int c3.2.1, .int c3.2.2, .ref mne, .int x_9, .int w3.1, .int w3.2.1, .int w3.2.2, .ref mina, .int gv, .ref mrl, .ref mra, .int lns, .int ps, .int st, .int (bI tu)])), (mne, .inl (cZ, 130000, .inl (fun jz => bI (g_8 jz))))]) [0, 1] (by decide) rfl
        have hl9 := lv_sub (l' := [(3, .int x_10), (0, .ref mm), (1, .int w)]) hl [0, 1, 2] rfl
        have hm9 : (Int32.toInt x_10 + 1).toNat < (Int32.toInt j + 1).toNat := (by subst eg_8 ex_9 ex_10; have h9 := c_3; rw [ti_lt, ti_0] at h9; rw [ti_add (by rw [ti_m1]; omega) (by rw [ti_m1]; omega), ti_m1]; omega)
        exact ih19 (x_9, g_8, x_10) _ _ _ ⟨Nat.lt_of_lt_of_le hm9 (Nat.le_of_lt_succ hmu19), hF9, hI9, hP9, hD9, hS, hl9⟩
  · obtain ⟨x_11, ex_11⟩ : ∃ y : Int32, y = k + 1 := ⟨_, rfl⟩
    refine lv_iinc (v := x_11) (lv' := [(2, .int x_11), (0, .ref mm), (1, .int w)]) hx hb d_Model_word_9 hl (k := 0) rfl (by rw [ex_11]; rfl) (by decide) rfl (fun ls hl => ?_)
    replace ex_11 := ex_11.symm
    refine lv_goto (tgt := 2) hx hb d_Model_word_12 (by decide) ?_
    have hF9 : f_Model_word nx nex w = l_Model_word_2 nx nex w n2 x_11 := (by subst ex_11; exact (hF2.trans ((if_neg c_1).trans (rfl))))
    have hI9 : 0 ≤ Int32.toInt x_11 ∧ Int32.toInt x_11 ≤ 31 := (by subst ex_11; have h9 := w_30 hj1 hj2 c_1; rw [ti_add (by rw [ti_1]; omega) (by rw [ti_1]; omega), ti_1]; omega)
    have hP9 := hP.sub (ws' := [(mm, .inr (7, [.ref mwr, .ref mbr, .ref mwb, .ref mbb, .ref mbl, .ref mmo, .int th, .int (nI wd), .ref mli, .ref mab, .ref mou, .int bt, .int (bI cl), .int cd, .int c3.1, .int c3.2.1, .int c3.2.2, .ref mne, .int nx, .int w3.1, .int w3.2.1, .int w3.2.2, .ref mina, .int gv, .ref mrl, .ref mra, .int lns, .int ps, .int st, .int (bI tu)])), (mne, .inl (cZ, 130000, .inl (fun jz => bI (nex jz))))]) [0, 1] rfl
    have hD9 := hD.sub (ws' := [(mm, .inr (7, [.ref mwr, .ref mbr, .ref mwb, .ref mbb, .ref mbl, .ref mmo, .int th, .int (nI wd), .ref mli, .ref mab, .ref mou, .int bt, .int (bI cl), .int cd, .int c3.1, .int c3.2.1, .int c3.2.2, .ref mne, .int nx, .int w3.1, .int w3.2.1, .int w3.2.2, .ref mina, .int gv, .ref mrl, .ref mra, .int lns, .int ps, .int st, .int (bI tu)])), (mne, .inl (cZ, 130000, .inl (fun jz => bI (nex jz))))]) [0, 1] (by decide) rfl
    have hl9 := lv_sub (l' := [(2, .int x_11), (0, .ref mm), (1, .int w)]) hl [0, 1, 2] rfl
    have hm9 : (32 - Int32.toInt x_11).toNat < (32 - Int32.toInt k).toNat := (by subst ex_11; have h9 := w_30 hj1 hj2 c_1; rw [ti_add (by rw [ti_1]; omega) (by rw [ti_1]; omega), ti_1]; omega)
    exact ih2 x_11 _ _ _ ⟨Nat.lt_of_lt_of_le hm9 (Nat.le_of_lt_succ hmu2), hF9, hI9, hP9, hD9, hS, hl9⟩
