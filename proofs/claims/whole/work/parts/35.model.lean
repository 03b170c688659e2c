def l_Model_begins_18 (of : Nat → Int32) (my : Int32) (x : Int32) (rec6 : Bool → Int32 → Int32) : Nat → Int32 → Int32 → Bool → Int32
  | 0, _, _, _ => default
  | n18 + 1, w, y5, y4 => if w ≤ x then (if (bI y4) = 0 then (if w = x then (let x_8 := y5 + 1; rec6 true x_8) else (let x_7 := y5 + 1; rec6 false x_7)) else (let x_5 := y5 + 1; rec6 true x_5)) else (let x_9 := w >>> ((1 : Int32) &&& 31); l_Model_begins_18 of my x rec6 n18 x_9 y5 y4)
def l_Model_begins_6 (of : Nat → Int32) (my : Int32) (x : Int32) : Nat → Bool → Int32 → Int32
  | 0, _, _ => default
  | n6 + 1, y, k => if my ≤ k then (bI y) else (let x_2 := of k.toNatClampNeg; l_Model_begins_18 of my x (l_Model_begins_6 of my x n6) ((Int32.toInt x_2).toNat + 1) x_2 k y)
def f_Model_begins (of : Nat → Int32) (my : Int32) (x : Int32) : Int32 := l_Model_begins_6 of my x ((Int32.toInt my - Int32.toInt (0 : Int32)).toNat + 1) false (0 : Int32)
set_option maxHeartbeats 4000000 in
set_option maxRecDepth 100000 in
theorem c_Model_begins (l : Launch) (dC : Nat → ClassId) (dI : Nat → Nat → Nat) (cI cZ : ClassId) (mm : Nat) (mwr : Nat) (mbr : Nat) (mwb : Nat) (mbb : Nat) (mbl : Nat) (mmo : Nat) (mli : Nat) (mab : Nat) (mou : Nat) (mne : Nat) (mina : Nat) (mrl : Nat) (mra : Nat) (oa : Nat) (on : Nat) (of : Nat → Int32) (wd : Nat) (th : Int32) (bt : Int32) (cl : Bool) (cd : Int32) (c3 : Int32 × Int32 × Int32) (nx : Int32) (w3 : Int32 × Int32 × Int32) (gv : Int32) (lns : Int32) (ps : Int32) (st : Int32) (tu : Bool) (sz : Nat)  (my : Int32) (x : Int32) (hwd : wd ≤ 10000) (hon : on < 1000 ∧ my.toInt ≤ on) (hxv : 0 ≤ x.toInt) : Met l y_Model_begins w_Model_begins ({ frames := 0, cells := 0, slots := 0, locals := 0 }) (va_Pc [.ref mm, .ref oa, .int my, .int x] (fun U => U.heap.size = sz ∧ va_P (dC, dI) classes [(mm, .inr (7, [.ref mwr, .ref mbr, .ref mwb, .ref mbb, .ref mbl, .ref mmo, .int th, .int (nI wd), .ref mli, .ref mab, .ref mou, .int bt, .int (bI cl), .int cd, .int c3.1, .int c3.2.1, .int c3.2.2, .ref mne, .int nx, .int w3.1, .int w3.2.1, .int w3.2.2, .ref mina, .int gv, .ref mrl, .ref mra, .int lns, .int ps, .int st, .int (bI tu)])), (oa, .inl (cI, on, .inl of))] U.heap ∧ va_K (dC, dI) classes [(cI, .int), (cZ, .boolean)] U ∧ va_D (fun _ => True) [(mm, .inr (7, [.ref mwr, .ref mbr, .ref mwb, .ref mbb, .ref mbl, .ref mmo, .int th, .int (nI wd), .ref mli, .ref mab, .ref mou, .int bt, .int (bI cl), .int cd, .int c3.1, .int c3.2.1, .int c3.2.2, .ref mne, .int nx, .int w3.1, .int w3.2.1, .int w3.2.2, .ref mina, .int gv, .ref mrl, .ref mra, .int lns, .int ps, .int st, .int (bI tu)])), (oa, .inl (cI, on, .inl of))])) (va_Qi (fun (r : Int32) (u : Unit) => r = f_Model_begins of my x) (fun (u : Unit) (t : State) => va_P (dC, dI) classes [(mm, .inr (7, [.ref mwr, .ref mbr, .ref mwb, .ref mbb, .ref mbl, .ref mmo, .int th, .int (nI wd), .ref mli, .ref mab, .ref mou, .int bt, .int (bI cl), .int cd, .int c3.1, .int c3.2.1, .int c3.2.2, .ref mne, .int nx, .int w3.1, .int w3.2.1, .int w3.2.2, .ref mina, .int gv, .ref mrl, .ref mra, .int lns, .int ps, .int st, .int (bI tu)])), (oa, .inl (cI, on, .inl of))] t.heap ∧ va_K (dC, dI) classes [(cI, .int), (cZ, .boolean)] t ∧ va_D (va_A [(mm, .inr (7, [.ref mwr, .ref mbr, .ref mwb, .ref mbb, .ref mbl, .ref mmo, .int th, .int (nI wd), .ref mli, .ref mab, .ref mou, .int bt, .int (bI cl), .int cd, .int c3.1, .int c3.2.1, .int c3.2.2, .ref mne, .int nx, .int w3.1, .int w3.2.1, .int w3.2.2, .ref mina, .int gv, .ref mrl, .ref mra, .int lns, .int ps, .int st, .int (bI tu)])), (oa, .inl (cI, on, .inl of))] sz) [(mm, .inr (7, [.ref mwr, .ref mbr, .ref mwb, .ref mbb, .ref mbl, .ref mmo, .int th, .int (nI wd), .ref mli, .ref mab, .ref mou, .int bt, .int (bI cl), .int cd, .int c3.1, .int c3.2.1, .int c3.2.2, .ref mne, .int nx, .int w3.1, .int w3.2.1, .int w3.2.2, .ref mina, .int gv, .ref mrl, .ref mra, .int lns, .int ps, .int st, .int (bI tu)])), (oa, .inl (cI, on, .inl of))]) (va_A [(mm, .inr (7, [.ref mwr, .ref mbr, .ref mwb, .ref mbb, .ref mbl, .ref mmo, .int th, .int (nI wd), .ref mli, .ref mab, .ref mou, .int bt, .int (bI cl), .int cd, .int c3.1, .int c3.2.1, .int c3.2.2, .ref mne, .int nx, .int w3.1, .int w3.2.1, .int w3.2.2, .ref mina, .int gv, .ref mrl, .ref mra, .int lns, .int ps, .int st, .int (bI tu)])), (oa, .inl (cI, on, .inl of))] sz)) 0 0 (va_A [(mm, .inr (7, [.ref mwr, .ref mbr, .ref mwb, .ref mbb, .ref mbl, .ref mmo, .int th, .int (nI wd), .ref mli, .ref mab, .ref mou, .int bt, .int (bI cl), .int cd, .int c3.1, .int c3.2.1, .int c3.2.2, .ref mne, .int nx, .int w3.1, .int w3.2.1, .int w3.2.2, .ref mina, .int gv, .ref mrl, .ref mra, .int lns, .int ps, .int st, .int (bI tu)])), (oa, .inl (cI, on, .inl of))] sz) := by
  refine Met.ofW (cc := b_Model_begins) (maxL := 7) (ret := (some .boolean)) (by decide) rfl ?_
  intro p e s m args below meth c s₁ B hml hv
  obtain ⟨rfl, hsz, hP, hK, hD0⟩ := hv
  have hx := B.exec
  have hb := B.bytes
  have hr := B.returns
  have hts := atoms_spec (ws := w_Model_begins) B.pre
  have hw : ∀ w ∈ WA, w.before _ s = true := fun w h => hts w (List.mem_cons_of_mem _ h)
  have hown : s.vm.findClass R_Model = some m.cls := findClass_of_methodNamed B.named
  have hlocks := B.notSynchronized
  subst hsz
  have hD := hD0.self (sz := s.heap.size)
  generalize hAe : va_A [(mm, .inr (7, [.ref mwr, .ref mbr, .ref mwb, .ref mbb, .ref mbl, .ref mmo, .int th, .int (nI wd), .ref mli, .ref mab, .ref mou, .int bt, .int (bI cl), .int cd, .int c3.1, .int c3.2.1, .int c3.2.2, .ref mne, .int nx, .int w3.1, .int w3.2.1, .int w3.2.2, .ref mina, .int gv, .ref mrl, .ref mra, .int lns, .int ps, .int st, .int (bI tu)])), (oa, .inl (cI, on, .inl of))] s.heap.size = A at hD ⊢
  have hA : ∀ q : Nat, s.heap.size ≤ q → A q := fun q h => by rw [← hAe]; exact Or.inr h
  have hS : va_S A s.heap s.heap [] := va_S.rf
  have hP : va_P (dC, dI) classes [(mm, .inr (7, [.ref mwr, .ref mbr, .ref mwb, .ref mbb, .ref mbl, .ref mmo, .int th, .int (nI wd), .ref mli, .ref mab, .ref mou, .int bt, .int (bI cl), .int cd, .int c3.1, .int c3.2.1, .int c3.2.2, .ref mne, .int nx, .int w3.1, .int w3.2.1, .int w3.2.2, .ref mina, .int gv, .ref mrl, .ref mra, .int lns, .int ps, .int st, .int (bI tu)])), (oa, .inl (cI, on, .inl of))] s.heap := hP
  have hl := lv_entry ([.ref mm, .ref oa, .int my, .int x]) (n := 7) (Nat.le_of_ble_eq_true rfl)
  rw [lg_entry_eq]
  generalize (lg_sl ([.ref mm, .ref oa, .int my, .int x]) ++ List.replicate (7 - (lg_sl ([.ref mm, .ref oa, .int my, .int x])).length) Slot.unset).toArray = ls at hl ⊢
  have hl : lv_has ls 7 [(0, .ref mm), (1, .ref oa), (2, .int my), (3, .int x)] := hl
  refine lv_iconst (v := 0) hx hb d_Model_begins_0 (by decide) ?_
  refine lv_istore (lv' := [(4, .int 0), (0, .ref mm), (1, .ref oa), (2, .int my), (3, .int x)]) hx hb d_Model_begins_1 hl (by decide) rfl (fun ls hl => ?_)
  refine lv_iconst (v := 0) hx hb d_Model_begins_3 (by decide) ?_
  refine lv_istore (lv' := [(5, .int 0), (4, .int 0), (0, .ref mm), (1, .ref oa), (2, .int my), (3, .int x)]) hx hb d_Model_begins_4 hl (by decide) rfl (fun ls hl => ?_)
  have hF9 : f_Model_begins of my x = l_Model_begins_6 of my x ((Int32.toInt my - Int32.toInt (0 : Int32)).toNat + 1) false (0 : Int32) := (by exact (rfl))
  have hI9 : 0 ≤ Int32.toInt (0 : Int32) := (by decide)
  have hP9 := hP.sub (ws' := [(mm, .inr (7, [.ref mwr, .ref mbr, .ref mwb, .ref mbb, .ref mbl, .ref mmo, .int th, .int (nI wd), .ref mli, .ref mab, .ref mou, .int bt, .int (bI cl), .int cd, .int c3.1, .int c3.2.1, .int c3.2.2, .ref mne, .int nx, .int w3.1, .int w3.2.1, .int w3.2.2, .ref mina, .int gv, .ref mrl, .ref mra, .int lns, .int ps, .int st, .int (bI tu)])), (oa, .inl (cI, on, .inl of))]) [0, 1] rfl
  have hD9 := hD.sub (ws' := [(mm, .inr (7, [.ref mwr, .ref mbr, .ref mwb, .ref mbb, .ref mbl, .ref mmo, .int th, .int (nI wd), .ref mli, .ref mab, .ref mou, .int bt, .int (bI cl), .int cd, .int c3.1, .int c3.2.1, .int c3.2.2, .ref mne, .int nx, .int w3.1, .int w3.2.1, .int w3.2.2, .ref mina, .int gv, .ref mrl, .ref mra, .int lns, .int ps, .int st, .int (bI tu)])), (oa, .inl (cI, on, .inl of))]) [0, 1] (by decide) rfl
  have hl9 := lv_sub (l' := [(5, .int 0), (4, .int 0), (0, .ref mm), (1, .ref oa), (2, .int my), (3, .int x)]) hl [0, 1, 2, 3, 4, 5] rfl
  refine lp_n (pc := 6) (σ := Bool × Int32) (I := fun nQ vQ H locs ls => (Int32.toInt my - Int32.toInt vQ.2).toNat < nQ ∧ f_Model_begins of my x = l_Model_begins_6 of my x nQ vQ.1 vQ.2 ∧ (0 ≤ Int32.toInt vQ.2) ∧ va_P (dC, dI) classes [(mm, .inr (7, [.ref mwr, .ref mbr, .ref mwb, .ref mbb, .ref mbl, .ref mmo, .int th, .int (nI wd), .ref mli, .ref mab, .ref mou, .int bt, .int (bI cl), .int cd, .int c3.1, .int c3.2.1, .int c3.2.2, .ref mne, .int nx, .int w3.1, .int w3.2.1, .int w3.2.2, .ref mina, .int gv, .ref mrl, .ref mra, .int lns, .int ps, .int st, .int (bI tu)])), (oa, .inl (cI, on, .inl of))] H ∧ va_D A [(mm, .inr (7, [.ref mwr, .ref mbr, .ref mwb, .ref mbb, .ref mbl, .ref mmo, .int th, .int (nI wd), .ref mli, .ref mab, .ref mou, .int bt, .int (bI cl), .int cd, .int c3.1, .int c3.2.1, .int c3.2.2, .ref mne, .int nx, .int w3.1, .int w3.2.1, .int w3.2.2, .ref mina, .int gv, .ref mrl, .ref mra, .int lns, .int ps, .int st, .int (bI tu)])), (oa, .inl (cI, on, .inl of))] ∧ va_S A s.heap H locs ∧ lv_has ls 7 [(5, .int vQ.2), (4, .int (bI vQ.1)), (0, .ref mm), (1, .ref oa), (2, .int my), (3, .int x)]) (fun vQ H locs ls h => absurd h.1 (Nat.not_lt_zero _)) ?_ ((Int32.toInt my - Int32.toInt (0 : Int32)).toNat + 1) (false, (0 : Int32)) _ _ _ ⟨Nat.lt_succ_self _, hF9, hI9, hP9, hD9, hS, hl9⟩
  intro n6 ih6 vQ H locs ls hI
  obtain ⟨y, k⟩ := vQ
  obtain ⟨hmu6, hF6, hinv, hP, hD, hS, hl⟩ := hI
  have hinv : 0 ≤ Int32.toInt k := hinv
  obtain hj := hinv
  have hmu6 : (Int32.toInt my - Int32.toInt k).toNat < n6 + 1 := hmu6
  have hF6 : f_Model_begins of my x = l_Model_begins_6 of my x (n6 + 1) y k := hF6
  have hP : va_P (dC, dI) classes [(mm, .inr (7, [.ref mwr, .ref mbr, .ref mwb, .ref mbb, .ref mbl, .ref mmo, .int th, .int (nI wd), .ref mli, .ref mab, .ref mou, .int bt, .int (bI cl), .int cd, .int c3.1, .int c3.2.1, .int c3.2.2, .ref mne, .int nx, .int w3.1, .int w3.2.1, .int w3.2.2, .ref mina, .int gv, .ref mrl, .ref mra, .int lns, .int ps, .int st, .int (bI tu)])), (oa, .inl (cI, on, .inl of))] H := hP
  have hD : va_D A [(mm, .inr (7, [.ref mwr, .ref mbr, .ref mwb, .ref mbb, .ref mbl, .ref mmo, .int th, .int (nI wd), .ref mli, .ref mab, .ref mou, .int bt, .int (bI cl), .int cd, .int c3.1, .int c3.2.1, .int c3.2.2, .ref mne, .int nx, .int w3.1, .int w3.2.1, .int w3.2.2, .ref mina, .int gv, .ref mrl, .ref mra, .int lns, .int ps, .int st, .int (bI tu)])), (oa, .inl (cI, on, .inl of))] := hD
  have hl : lv_has ls 7 [(5, .int k), (4, .int (bI y)), (0, .ref mm), (1, .ref oa), (2, .int my), (3, .int x)] := hl
  refine lv_iload hx hb d_Model_begins_6 (lv_at hl 0 rfl) ?_
  refine lv_iload_n hx hb d_Model_begins_8 rfl (lv_at hl 4 rfl) ?_
  refine lv_icmp_ge (tgt := 57) hx hb d_Model_begins_9 (by decide) (fun c_1 => ?_) (fun c_1 => ?_)
  · refine lv_iload hx hb d_Model_begins_57 (lv_at hl 1 rfl) ?_
    have hP9 := hP.sub (ws' := [(mm, .inr (7, [.ref mwr, .ref mbr, .ref mwb, .ref mbb, .ref mbl, .ref mmo, .int th, .int (nI wd), .ref mli, .ref mab, .ref mou, .int bt, .int (bI cl), .int cd, .int c3.1, .int c3.2.1, .int c3.2.2, .ref mne, .int nx, .int w3.1, .int w3.2.1, .int w3.2.2, .ref mina, .int gv, .ref mrl, .ref mra, .int lns, .int ps, .int st, .int (bI tu)])), (oa, .inl (cI, on, .inl of))]) [0, 1] rfl
    have hD9 := hD.sub (ws' := [(mm, .inr (7, [.ref mwr, .ref mbr, .ref mwb, .ref mbb, .ref mbl, .ref mmo, .int th, .int (nI wd), .ref mli, .ref mab, .ref mou, .int bt, .int (bI cl), .int cd, .int c3.1, .int c3.2.1, .int c3.2.2, .ref mne, .int nx, .int w3.1, .int w3.2.1, .int w3.2.2, .ref mina, .int gv, .ref mrl, .ref mra, .int lns, .int ps, .int st, .int (bI tu)])), (oa, .inl (cI, on, .inl of))]) [0, 1] (by decide) rfl
    have hK9 := hK
    exact W.zret (v := bI y) hx hb hr (na_bI _) (fun t ht hW => ⟨⟨bI y, (), rfl, (by have h9 : f_Model_begins of my x = bI y := (by exact (hF6.trans ((if_pos c_1).trans (rfl)))); exact h9.symm), ⟨by rw [ht]; exact hP9, va_K.moved hW.alike hK9, hD9⟩⟩, hS.F ht⟩) hS.2.2 d_Model_begins_59
  · refine lv_aload_n hx hb d_Model_begins_12 rfl (lv_at hl 3 rfl) ?_
    refine lv_iload hx hb d_Model_begins_13 (lv_at hl 0 rfl) ?_
    refine va_iald hx hb hK hP 1 0 rfl rfl (by have h9 := c_1; rw [ti_le] at h9; exact ti_in (by omega) (by omega)) d_Model_begins_15 ?_
    refine lv_topi (fun x_2 ex_2 => ?_)
    replace ex_2 := ex_2.symm
    refine lv_istore (lv' := [(6, .int x_2), (5, .int k), (4, .int (bI y)), (0, .ref mm), (1, .ref oa), (2, .int my), (3, .int x)]) hx hb d_Model_begins_16 hl (by decide) rfl (fun ls hl => ?_)
    have hF9 : f_Model_begins of my x = l_Model_begins_18 of my x (l_Model_begins_6 of my x n6) ((Int32.toInt x_2).toNat + 1) x_2 k y := (by subst ex_2; exact (hF6.trans ((if_neg c_1).trans (rfl))))
    have hI9 : True ∧ k = k ∧ y = y := (by subst ex_2; refine ⟨?_, rfl, rfl⟩; trivial)
    have hP9 := hP.sub (ws' := [(mm, .inr (7, [.ref mwr, .ref mbr, .ref mwb, .ref mbb, .ref mbl, .ref mmo, .int th, .int (nI wd), .ref mli, .ref mab, .ref mou, .int bt, .int (bI cl), .int cd, .int c3.1, .int c3.2.1, .int c3.2.2, .ref mne, .int nx, .int w3.1, .int w3.2.1, .int w3.2.2, .ref mina, .int gv, .ref mrl, .ref mra, .int lns, .int ps, .int st, .int (bI tu)])), (oa, .inl (cI, on, .inl of))]) [0, 1] rfl
    have hD9 := hD.sub (ws' := [(mm, .inr (7, [.ref mwr, .ref mbr, .ref mwb, .ref mbb, .ref mbl, .ref mmo, .int th, .int (nI wd), .ref mli, .ref mab, .ref mou, .int bt, .int (bI cl), .int cd, .int c3.1, .int c3.2.1, .int c3.2.2, .ref mne, .int nx, .int w3.1, .int w3.2.1, .int w3.2.2, .ref mina, .int gv, .ref mrl, .ref mra, .int lns, .int ps, .int st, .int (bI tu)])), (oa, .inl (cI, on, .inl of))]) [0, 1] (by decide) rfl
    have hl9 := lv_sub (l' := [(6, .int x_2), (5, .int k), (4, .int (bI y)), (0, .ref mm), (1, .ref oa), (2, .int my), (3, .int x)]) hl [0, 1, 2, 3, 4, 5, 6] rfl
    refine lp_n (pc := 18) (σ := Int32 × Int32 × Bool) (I := fun nQ vQ H locs ls => (Int32.toInt vQ.1).toNat < nQ ∧ f_Model_begins of my x = l_Model_begins_18 of my x (l_Model_begins_6 of my x n6) nQ vQ.1 vQ.2.1 vQ.2.2 ∧ (True ∧ k = vQ.2.1 ∧ y = vQ.2.2) ∧ va_P (dC, dI) classes [(mm, .inr (7, [.ref mwr, .ref mbr, .ref mwb, .ref mbb, .ref mbl, .ref mmo, .int th, .int (nI wd), .ref mli, .ref mab, .ref mou, .int bt, .int (bI cl), .int cd, .int c3.1, .int c3.2.1, .int c3.2.2, .ref mne, .int nx, .int w3.1, .int w3.2.1, .int w3.2.2, .ref mina, .int gv, .ref mrl, .ref mra, .int lns, .int ps, .int st, .int (bI tu)])), (oa, .inl (cI, on, .inl of))] H ∧ va_D A [(mm, .inr (7, [.ref mwr, .ref mbr, .ref mwb, .ref mbb, .ref mbl, .ref mmo, .int th, .int (nI wd), .ref mli, .ref mab, .ref mou, .int bt, .int (bI cl), .int cd, .int c3.1, .int c3.2.1, .int c3.2.2, .ref mne, .int nx, .int w3.1, .int w3.2.1, .int w3.2.2, .ref mina, .int gv, .ref mrl, .ref mra, .int lns, .int ps, .int st, .int (bI tu)])), (oa, .inl (cI, on, .inl of))] ∧ va_S A s.heap H locs ∧ lv_has ls 7 [(6, .int vQ.1), (5, .int vQ.2.1), (4, .int (bI vQ.2.2)), (0, .ref mm), (1, .ref oa), (2, .int my), (3, .int x)]) (fun vQ H locs ls h => absurd h.1 (Nat.not_lt_zero _)) ?_ ((Int32.toInt x_2).toNat + 1) (x_2, k, y) _ _ _ ⟨Nat.lt_succ_self _, hF9, hI9, hP9, hD9, hS, hl9⟩
    intro n18 ih18 vQ H locs ls hI
    obtain ⟨w, y5, y4⟩ := vQ
    obtain ⟨hmu18, hF18, hinv, hP, hD, hS, hl⟩ := hI
    have hinv : True ∧ k = y5 ∧ y = y4 := hinv
    obtain ⟨hinv, he_y5, he_y4⟩ := hinv
    have hmu18 : (Int32.toInt w).toNat < n18 + 1 := hmu18
    have hF18 : f_Model_begins of my x = l_Model_begins_18 of my x (l_Model_begins_6 of my x n6) (n18 + 1) w y5 y4 := hF18
    have hP : va_P (dC, dI) classes [(mm, .inr (7, [.ref mwr, .ref mbr, .ref mwb, .ref mbb, .ref mbl, .ref mmo, .int th, .int (nI wd), .ref mli, .ref mab, .ref mou, .int bt, .int (bI cl), .int cd, .int c3.1, .int c3.2.1, .int c3.2.2, .ref mne, .int nx, .int w3.1, .int w3.2.1, .int w3.2.2, .ref mina, .int gv, .ref mrl, .ref mra, .int lns, .int ps, .int st, .int (bI tu)])), (oa, .inl (cI, on, .inl of))] H := hP
    have hD : va_D A [(mm, .inr (7, [.ref mwr, .ref mbr, .ref mwb, .ref mbb, .ref mbl, .ref mmo, .int th, .int (nI wd), .ref mli, .ref mab, .ref mou, .int bt, .int (bI cl), .int cd, .int c3.1, .int c3.2.1, .int c3.2.2, .ref mne, .int nx, .int w3.1, .int w3.2.1, .int w3.2.2, .ref mina, .int gv, .ref mrl, .ref mra, .int lns, .int ps, .int st, .int (bI tu)])), (oa, .inl (cI, on, .inl of))] := hD
    have hl : lv_has ls 7 [(6, .int w), (5, .int y5), (4, .int (bI y4)), (0, .ref mm), (1, .ref oa), (2, .int my), (3, .int x)] := hl
    refine lv_iload hx hb d_Model_begins_18 (lv_at hl 0 rfl) ?_
    refine lv_iload_n hx hb d_Model_begins_20 rfl (lv_at hl 6 rfl) ?_
    refine lv_icmp_le (tgt := 33) hx hb d_Model_begins_21 (by decide) (fun c_3 => ?_) (fun c_3 => ?_)
    · refine lv_iload hx hb d_Model_begins_33 (lv_at hl 2 rfl) ?_
      refine lv_if_ne (tgt := 44) hx hb d_Model_begins_35 (by decide) (fun c_4 => ?_) (fun c_4 => ?_)
      · refine lv_iconst (v := 1) hx hb d_Model_begins_44 (by decide) ?_
        refine lv_goto (tgt := 49) hx hb d_Model_begins_45 (by decide) ?_
        refine lv_istore (lv' := [(4, .int 1), (6, .int w), (5, .int y5), (0, .ref mm), (1, .ref oa), (2, .int my), (3, .int x)]) hx hb d_Model_begins_49 hl (by decide) rfl (fun ls hl => ?_)
        obtain ⟨x_5, ex_5⟩ : ∃ y : Int32, y = y5 + 1 := ⟨_, rfl⟩
        refine lv_iinc (v := x_5) (lv' := [(5, .int x_5), (4, .int 1), (6, .int w), (0, .ref mm), (1, .ref oa), (2, .int my), (3, .int x)]) hx hb d_Model_begins_51 hl (k := 2) rfl (by rw [ex_5]; rfl) (by decide) rfl (fun ls hl => ?_)
        replace ex_5 := ex_5.symm
        refine lv_goto (tgt := 6) hx hb d_Model_begins_54 (by decide) ?_
        have hF9 : f_Model_begins of my x = l_Model_begins_6 of my x n6 true x_5 := (by subst he_y5 he_y4 ex_5; exact (hF18.trans ((if_pos c_3).trans ((if_neg c_4).trans (rfl)))))
        have hI9 : 0 ≤ Int32.toInt x_5 := (by subst he_y5 he_y4 ex_5; have h9 := c_1; rw [ti_le] at h9; rw [ti_add (by rw [ti_1]; omega) (by rw [ti_1]; omega), ti_1]; omega)
        have hP9 := hP.sub (ws' := [(mm, .inr (7, [.ref mwr, .ref mbr, .ref mwb, .ref mbb, .ref mbl, .ref mmo, .int th, .int (nI wd), .ref mli, .ref mab, .ref mou, .int bt, .int (bI cl), .int cd, .int c3.1, .int c3.2.1, .int c3.2.2, .ref mne, .int nx, .int w3.1, .int w3.2.1, .int w3.2.2, .ref mina, .int gv, .ref mrl, .ref mra, .int lns, .int ps, .int st, .int (bI tu)])), (oa, .inl (cI, on, .inl of))]) [0, 1] rfl
        have hD9 := hD.sub (ws' := [(mm, .inr (7, [.ref mwr, .ref mbr, .ref mwb, .ref mbb, .ref mbl, .ref mmo, .int th, .int (nI wd), .ref mli, .ref mab, .ref mou, .int bt, .int (bI cl), .int cd, .int c3.1, .int c3.2.1, .int c3.2.2, .ref mne, .int nx, .int w3.1, .int w3.2.1, .int w3.2.2, .ref mina, .int gv, .ref mrl, .ref mra, .int lns, .int ps, .int st, .int (bI tu)])), (oa, .inl (cI, on, .inl of))]) [0, 1] (by decide) rfl
        have hl9 := lv_sub (l' := [(5, .int x_5), (4, .int 1), (0, .ref mm), (1, .ref oa), (2, .int my), (3, .int x)]) hl [0, 1, 3, 4, 5, 6] rfl
        have hm9 : (Int32.toInt my - Int32.toInt x_5).toNat < (Int32.toInt my - Int32.toInt k).toNat := (by subst he_y5 he_y4 ex_5; exact mu_b c_1)
        exact ih6 (true, x_5) _ _ _ ⟨Nat.lt_of_lt_of_le hm9 (Nat.le_of_lt_succ hmu6), hF9, hI9, hP9, hD9, hS, hl9⟩
      · refine lv_iload hx hb d_Model_begins_38 (lv_at hl 0 rfl) ?_
        refine lv_iload_n hx hb d_Model_begins_40 rfl (lv_at hl 6 rfl) ?_
        refine lv_icmp_ne (tgt := 48) hx hb d_Model_begins_41 (by decide) (fun c_6 => ?_) (fun c_6 => ?_)
        · refine lv_iconst (v := 0) hx hb d_Model_begins_48 (by decide) ?_
          refine lv_istore (lv' := [(4, .int 0), (6, .int w), (5, .int y5), (0, .ref mm), (1, .ref oa), (2, .int my), (3, .int x)]) hx hb d_Model_begins_49 hl (by decide) rfl (fun ls hl => ?_)
          obtain ⟨x_7, ex_7⟩ : ∃ y : Int32, y = y5 + 1 := ⟨_, rfl⟩
          refine lv_iinc (v := x_7) (lv' := [(5, .int x_7), (4, .int 0), (6, .int w), (0, .ref mm), (1, .ref oa), (2, .int my), (3, .int x)]) hx hb d_Model_begins_51 hl (k := 2) rfl (by rw [ex_7]; rfl) (by decide) rfl (fun ls hl => ?_)
          replace ex_7 := ex_7.symm
          refine lv_goto (tgt := 6) hx hb d_Model_begins_54 (by decide) ?_
          have hF9 : f_Model_begins of my x = l_Model_begins_6 of my x n6 false x_7 := (by subst he_y5 he_y4 ex_7; exact (hF18.trans ((if_pos c_3).trans ((if_pos c_4).trans ((if_neg c_6).trans (rfl))))))
          have hI9 : 0 ≤ Int32.toInt x_7 := (by subst he_y5 he_y4 ex_7; have h9 := c_1; rw [ti_le] at h9; rw [ti_add (by rw [ti_1]; omega) (by rw [ti_1]; omega), ti_1]; omega)
          have hP9 := hP.sub (ws' := [(mm, .inr (7, [.ref mwr, .ref mbr, .ref mwb, .ref mbb, .ref mbl, .ref mmo, .int th, .int (nI wd), .ref mli, .ref mab, .ref mou, .int bt, .int (bI cl), .int cd, .int c3.1, .int c3.2.1, .int c3.2.2, .ref mne, .int nx, .int w3.1, .int w3.2.1, .int w3.2.2, .ref mina, .int gv, .ref mrl, .ref mra, .int lns, .int ps, .int st, .int (bI tu)])), (oa, .inl (cI, on, .inl of))]) [0, 1] rfl
          have hD9 := hD.sub (ws' := [(mm, .inr (7, [.ref mwr, .ref mbr, .ref mwb, .ref mbb, .ref mbl, .ref mmo, .int th, .int (nI wd), .ref mli, .ref mab, .ref mou, .int bt, .int (bI cl), .int cd, .int c3.1, .int c3.2.1, .int c3.2.2, .ref mne, .int nx, .int w3.1, .int w3.2.1, .int w3.2.2, .ref mina, .int gv, .ref mrl, .ref mra, .int lns, .int ps, .int st, .int (bI tu)])), (oa, .inl (cI, on, .inl of))]) [0, 1] (by decide) rfl
          have hl9 := lv_sub (l' := [(5, .int x_7), (4, .int 0), (0, .ref mm), (1, .ref oa), (2, .int my), (3, .int x)]) hl [0, 1, 3, 4, 5, 6] rfl
          have hm9 : (Int32.toInt my - Int32.toInt x_7).toNat < (Int32.toInt my - Int32.toInt k).toNat := (by subst he_y5 he_y4 ex_7; exact mu_b c_1)
          exact ih6 (false, x_7) _ _ _ ⟨Nat.lt_of_lt_of_le hm9 (Nat.le_of_lt_succ hmu6), hF9, hI9, hP9, hD9, hS, hl9⟩
        · refine lv_iconst (v := 1) hx hb d_Model_begins_44 (by decide) ?_
          refine lv_goto (tgt := 49) hx hb d_Model_begins_45 (by decide) ?_
          refine lv_istore (lv' := [(4, .int 1), (6, .int w), (5, .int y5), (0, .ref mm), (1, .ref oa), (2, .int my), (3, .int x)]) hx hb d_Model_begins_49 hl (by decide) rfl (fun ls hl => ?_)
          obtain ⟨x_8, ex_8⟩ : ∃ y : Int32, y = y5 + 1 := ⟨_, rfl⟩
          refine lv_iinc (v := x_8) (lv' := [(5, .int x_8), (4, .int 1), (6, .int w), (0, .ref mm), (1, .ref oa), (2, .int my), (3, .int x)]) hx hb d_Model_begins_51 hl (k := 2) rfl (by rw [ex_8]; rfl) (by decide) rfl (fun ls hl => ?_)
          replace ex_8 := ex_8.symm
          refine lv_goto (tgt := 6) hx hb d_Model_begins_54 (by decide) ?_
          have hF9 : f_Model_begins of my x = l_Model_begins_6 of my x n6 true x_8 := (by subst he_y5 he_y4 ex_8; exact (hF18.trans ((if_pos c_3).trans ((if_pos c_4).trans ((if_pos c_6).trans (rfl))))))
          have hI9 : 0 ≤ Int32.toInt x_8 := (by subst he_y5 he_y4 ex_8; have h9 := c_1; rw [ti_le] at h9; rw [ti_add (by rw [ti_1]; omega) (by rw [ti_1]; omega), ti_1]; omega)
          have hP9 := hP.sub (ws' := [(mm, .inr (7, [.ref mwr, .ref mbr, .ref mwb, .ref mbb, .ref mbl, .ref mmo, .int th, .int (nI wd), .ref mli, .ref mab, .ref mou, .int bt, .int (bI cl), .int cd, .int c3.1, .int c3.2.1, .int c3.2.2, .ref mne, .int nx, .int w3.1, .int w3.2.1, .int w3.2.2, .ref mina, .int gv, .ref mrl, .ref mra, .int lns, .int ps, .int st, .int (bI tu)])), (oa, .inl (cI, on, .inl of))]) [0, 1] rfl
          have hD9 := hD.sub (ws' := [(mm, .inr (7, [.ref mwr, .ref mbr, .ref mwb, .ref mbb, .ref mbl, .ref mmo, .int th, .int (nI wd), .ref mli, .ref mab, .ref mou, .int bt, .int (bI cl), .int cd, .int c3.1, .int c3.2.1, .int c3.2.2, .ref mne, .int nx, .int w3.1, .int w3.2.1, .int w3.2.2, .ref mina, .int gv, .ref mrl, .ref mra, .int lns, .int ps, .int st, .int (bI tu)])), (oa, .inl (cI, on, .inl of))]) [0, 1] (by decide) rfl
          have hl9 := lv_sub (l' := [(5, .int x_8), (4, .int 1), (0, .ref mm), (1, .ref oa), (2, .int my), (3, .int x)]) hl [0, 1, 3, 4, 5, 6] rfl
          have hm9 : (Int32.toInt my - Int32.toInt x_8).toNat < (Int32.toInt my - Int32.toInt k).toNat := (by subst he_y5 he_y4 ex_8; exact mu_b c_1)
          exact ih6 (true, x_8) _ _ _ ⟨Nat.lt_of_lt_of_le hm9 (Nat.le_of_lt_succ hmu6), hF9, hI9, hP9, hD9, hS, hl9⟩
    · refine lv_iload hx hb d_Model_begins_24 (lv_at hl 0 rfl) ?_
      refine lv_iconst (v := 1) hx hb d_Model_begins_26 (by decide) ?_
      refine lv_ishr hx hb d_Model_begins_27 ?_
      refine lv_topi (fun x_9 ex_9 => ?_)
      replace ex_9 := ex_9.symm
      refine lv_istore (lv' := [(6, .int x_9), (5, .int y5), (4, .int (bI y4)), (0, .ref mm), (1, .ref oa), (2, .int my), (3, .int x)]) hx hb d_Model_begins_28 hl (by decide) rfl (fun ls hl => ?_)
      refine lv_goto (tgt := 18) hx hb d_Model_begins_30 (by decide) ?_
      have hF9 : f_Model_begins of my x = l_Model_begins_18 of my x (l_Model_begins_6 of my x n6) n18 x_9 y5 y4 := (by subst he_y5 he_y4 ex_9; exact (hF18.trans ((if_neg c_3).trans (rfl))))
      have hI9 : True ∧ k = y5 ∧ y = y4 := (by exact ⟨(by trivial), he_y5, he_y4⟩)
      have hP9 := hP.sub (ws' := [(mm, .inr (7, [.ref mwr, .ref mbr, .ref mwb, .ref mbb, .ref mbl, .ref mmo, .int th, .int (nI wd), .ref mli, .ref mab, .ref mou, .int bt, .int (bI cl), .int cd, .int c3.1, .int c3.2.1, .int c3.2.2, .ref mne, .int nx, .int w3.1, .int w3.2.1, .int w3.2.2, .ref mina, .int gv, .ref mrl, .ref mra, .int lns, .int ps, .int st, .int (bI tu)])), (oa, .inl (cI, on, .inl of))]) [0, 1] rfl
      have hD9 := hD.sub (ws' := [(mm, .inr (7, [.ref mwr, .ref mbr, .ref mwb, .ref mbb, .ref mbl, .ref mmo, .int th, .int (nI wd), .ref mli, .ref mab, .ref mou, .int bt, .int (bI cl), .int cd, .int c3.1, .int c3.2.1, .int c3.2.2, .ref mne, .int nx, .int w3.1, .int w3.2.1, .int w3.2.2, .ref mina, .int gv, .ref mrl, .ref mra, .int lns, .int ps, .int st, .int (bI tu)])), (oa, .inl (cI, on, .inl of))]) [0, 1] (by decide) rfl
      have hl9 := lv_sub (l' := [(6, .int x_9), (5, .int y5), (4, .int (bI y4)), (0, .ref mm), (1, .ref oa), (2, .int my), (3, .int x)]) hl [0, 1, 2, 3, 4, 5, 6] rfl
      have hm9 : (Int32.toInt x_9).toNat < (Int32.toInt w).toNat := (by subst he_y5 he_y4 ex_9; have h9 := c_3; rw [ti_le] at h9; rw [ti_shr1 (by omega)]; omega)
      exact ih18 (x_9, y5, y4) _ _ _ ⟨Nat.lt_of_lt_of_le hm9 (Nat.le_of_lt_succ hmu18), hF9, hI9, hP9, hD9, hS, hl9⟩
