def f_Spot_move (wd : Nat) (ch : (Nat → Int32) × Int32) (sp : Int32 × Int32 × Bool × Int32 × Int32) (to : Int32) (bk : Bool) : (Int32 × Int32 × Bool × Int32 × Int32) := let r_1 := f_Line_firstRightOf wd ch to sp.1; if (r_1 &&& 1) = 1 then (if 1 = (bI bk) then (let r_13 := f_Line_placeOf wd ch r_1; let r_14 := f_Line_placeOf wd ch (r_1 + 1); (r_1, to, bk, r_13, r_14)) else (let x_10 := r_1 + 1; let r_11 := f_Line_placeOf wd ch x_10; let r_12 := f_Line_placeOf wd ch (x_10 + 1); (r_1, to, bk, r_11, r_12))) else (if 0 = (bI bk) then (let r_7 := f_Line_placeOf wd ch r_1; let r_8 := f_Line_placeOf wd ch (r_1 + 1); (r_1, to, bk, r_7, r_8)) else (let x_4 := r_1 + 1; let r_5 := f_Line_placeOf wd ch x_4; let r_6 := f_Line_placeOf wd ch (x_4 + 1); (r_1, to, bk, r_5, r_6)))
set_option maxHeartbeats 4000000 in
set_option maxRecDepth 100000 in
theorem c_Spot_move (l : Launch) (dC : Nat → ClassId) (dI : Nat → Nat → Nat) (cI cL : ClassId) (so : Nat) (lo : Nat) (lp : Nat) (lc : Nat) (wd : Nat) (pf : Nat → Int64) (ch : (Nat → Int32) × Int32) (sz : Nat) (sp : Int32 × Int32 × Bool × Int32 × Int32) (to : Int32) (bk : Bool) (hwd : wd ≤ 10000) : Met l y_Spot_move w_Spot_move ({ frames := 2, cells := 0, slots := 0, locals := 44 }) (va_Pc [.ref so, .int to, .int (bI bk)] (fun U => U.heap.size = sz ∧ va_P (dC, dI) classes [(so, .inr (4, [.ref lo, .int sp.1, .int sp.2.1, .int (bI sp.2.2.1), .int sp.2.2.2.1, .int sp.2.2.2.2])), (lo, .inr (2, [.int (nI wd), .ref lp, .ref lc, .int ch.2])), (lp, .inl (cL, ((wd + 63) / 64), .inr (.inl pf))), (lc, .inl (cI, wd, .inl ch.1))] U.heap ∧ va_K (dC, dI) classes [(cI, .int), (cL, .long)] U ∧ va_D (fun _ => True) [(so, .inr (4, [.ref lo, .int sp.1, .int sp.2.1, .int (bI sp.2.2.1), .int sp.2.2.2.1, .int sp.2.2.2.2])), (lo, .inr (2, [.int (nI wd), .ref lp, .ref lc, .int ch.2])), (lp, .inl (cL, ((wd + 63) / 64), .inr (.inl pf))), (lc, .inl (cI, wd, .inl ch.1))])) (va_Qv (fun (u : (Int32 × Int32 × Bool × Int32 × Int32)) => u = f_Spot_move wd ch sp to bk) (fun (u : (Int32 × Int32 × Bool × Int32 × Int32)) (t : State) => va_P (dC, dI) classes [(so, .inr (4, [.ref lo, .int u.1, .int u.2.1, .int (bI u.2.2.1), .int u.2.2.2.1, .int u.2.2.2.2])), (lo, .inr (2, [.int (nI wd), .ref lp, .ref lc, .int ch.2])), (lp, .inl (cL, ((wd + 63) / 64), .inr (.inl pf))), (lc, .inl (cI, wd, .inl ch.1))] t.heap ∧ va_K (dC, dI) classes [(cI, .int), (cL, .long)] t ∧ va_D (va_A [(so, .inr (4, [.ref lo, .int sp.1, .int sp.2.1, .int (bI sp.2.2.1), .int sp.2.2.2.1, .int sp.2.2.2.2])), (lo, .inr (2, [.int (nI wd), .ref lp, .ref lc, .int ch.2])), (lp, .inl (cL, ((wd + 63) / 64), .inr (.inl pf))), (lc, .inl (cI, wd, .inl ch.1))] sz) [(so, .inr (4, [.ref lo, .int u.1, .int u.2.1, .int (bI u.2.2.1), .int u.2.2.2.1, .int u.2.2.2.2])), (lo, .inr (2, [.int (nI wd), .ref lp, .ref lc, .int ch.2])), (lp, .inl (cL, ((wd + 63) / 64), .inr (.inl pf))), (lc, .inl (cI, wd, .inl ch.1))]) (va_A [(so, .inr (4, [.ref lo, .int sp.1, .int sp.2.1, .int (bI sp.2.2.1), .int sp.2.2.2.1, .int sp.2.2.2.2])), (lo, .inr (2, [.int (nI wd), .ref lp, .ref lc, .int ch.2])), (lp, .inl (cL, ((wd + 63) / 64), .inr (.inl pf))), (lc, .inl (cI, wd, .inl ch.1))] sz)) 0 0 (va_A [(so, .inr (4, [.ref lo, .int sp.1, .int sp.2.1, .int (bI sp.2.2.1), .int sp.2.2.2.1, .int sp.2.2.2.2])), (lo, .inr (2, [.int (nI wd), .ref lp, .ref lc, .int ch.2])), (lp, .inl (cL, ((wd + 63) / 64), .inr (.inl pf))), (lc, .inl (cI, wd, .inl ch.1))] sz) := by
  refine Met.ofW (cc := b_Spot_move) (maxL := 5) (ret := none) (by decide) rfl ?_
  intro p e s m args below meth c s₁ B hml hv
  obtain ⟨rfl, hsz, hP, hK, hD0⟩ := hv
  have hx := B.exec
  have hb := B.bytes
  have hr := B.returns
  have hts := atoms_spec (ws := w_Spot_move) B.pre
  have hw : ∀ w ∈ WA, w.before _ s = true := fun w h => hts w (List.mem_cons_of_mem _ h)
  have hown : s.vm.findClass R_Spot = some m.cls := findClass_of_methodNamed B.named
  have hlocks := B.notSynchronized
  subst hsz
  have hD := hD0.self (sz := s.heap.size)
  generalize hAe : va_A [(so, .inr (4, [.ref lo, .int sp.1, .int sp.2.1, .int (bI sp.2.2.1), .int sp.2.2.2.1, .int sp.2.2.2.2])), (lo, .inr (2, [.int (nI wd), .ref lp, .ref lc, .int ch.2])), (lp, .inl (cL, ((wd + 63) / 64), .inr (.inl pf))), (lc, .inl (cI, wd, .inl ch.1))] s.heap.size = A at hD ⊢
  have hA : ∀ q : Nat, s.heap.size ≤ q → A q := fun q h => by rw [← hAe]; exact Or.inr h
  have hS : va_S A s.heap s.heap [] := va_S.rf
  have hP : va_P (dC, dI) classes [(so, .inr (4, [.ref lo, .int sp.1, .int sp.2.1, .int (bI sp.2.2.1), .int sp.2.2.2.1, .int sp.2.2.2.2])), (lo, .inr (2, [.int (nI wd), .ref lp, .ref lc, .int ch.2])), (lp, .inl (cL, ((wd + 63) / 64), .inr (.inl pf))), (lc, .inl (cI, wd, .inl ch.1))] s.heap := hP
  have hl := lv_entry ([.ref so, .int to, .int (bI bk)]) (n := 5) (Nat.le_of_ble_eq_true rfl)
  rw [lg_entry_eq]
  generalize (lg_sl ([.ref so, .int to, .int (bI bk)]) ++ List.replicate (5 - (lg_sl ([.ref so, .int to, .int (bI bk)])).length) Slot.unset).toArray = ls at hl ⊢
  have hl : lv_has ls 5 [(0, .ref so), (1, .int to), (2, .int (bI bk))] := hl
  refine lv_aload_n hx hb d_Spot_move_0 rfl (lv_at hl 0 rfl) ?_
  refine lv_iload_n hx hb d_Spot_move_1 rfl (lv_at hl 1 rfl) ?_
  refine va_put (D := (dC, dI)) (ci := 4) (v := .int to) (ty := .int) (C := R_Spot) (T := F_Spot) (N := 6) hx hb hw i_Spot t_Spot t_Spot_ok n_Spot hown hK hP hD hS 0 rfl rfl 2 (by decide) (hw _ m_120) (fun _ h9 => h9) rfl (by decide +kernel) rfl rfl (Nat.le_of_ble_eq_true rfl) d_Spot_move_2 (fun H locs hP hD hS => ?_)
  have hP : va_P (dC, dI) classes [(so, .inr (4, [.ref lo, .int sp.1, .int to, .int (bI sp.2.2.1), .int sp.2.2.2.1, .int sp.2.2.2.2])), (lo, .inr (2, [.int (nI wd), .ref lp, .ref lc, .int ch.2])), (lp, .inl (cL, ((wd + 63) / 64), .inr (.inl pf))), (lc, .inl (cI, wd, .inl ch.1))] H := hP
  have hD : va_D A [(so, .inr (4, [.ref lo, .int sp.1, .int to, .int (bI sp.2.2.1), .int sp.2.2.2.1, .int sp.2.2.2.2])), (lo, .inr (2, [.int (nI wd), .ref lp, .ref lc, .int ch.2])), (lp, .inl (cL, ((wd + 63) / 64), .inr (.inl pf))), (lc, .inl (cI, wd, .inl ch.1))] := hD
  refine lv_aload_n hx hb d_Spot_move_5 rfl (lv_at hl 0 rfl) ?_
  refine lv_iload_n hx hb d_Spot_move_6 rfl (lv_at hl 2 rfl) ?_
  refine va_put (D := (dC, dI)) (ci := 4) (v := .int (bI bk)) (ty := .boolean) (C := R_Spot) (T := F_Spot) (N := 6) hx hb hw i_Spot t_Spot t_Spot_ok n_Spot hown hK hP hD hS 0 rfl rfl 3 (by decide) (hw _ m_123) (fun _ h9 => h9) rfl (by decide +kernel) (na_bI _) (fi_bI _) (Nat.le_of_ble_eq_true rfl) d_Spot_move_7 (fun H locs hP hD hS => ?_)
  have hP : va_P (dC, dI) classes [(so, .inr (4, [.ref lo, .int sp.1, .int to, .int (bI bk), .int sp.2.2.2.1, .int sp.2.2.2.2])), (lo, .inr (2, [.int (nI wd), .ref lp, .ref lc, .int ch.2])), (lp, .inl (cL, ((wd + 63) / 64), .inr (.inl pf))), (lc, .inl (cI, wd, .inl ch.1))] H := hP
  have hD : va_D A [(so, .inr (4, [.ref lo, .int sp.1, .int to, .int (bI bk), .int sp.2.2.2.1, .int sp.2.2.2.2])), (lo, .inr (2, [.int (nI wd), .ref lp, .ref lc, .int ch.2])), (lp, .inl (cL, ((wd + 63) / 64), .inr (.inl pf))), (lc, .inl (cI, wd, .inl ch.1))] := hD
  refine lv_aload_n hx hb d_Spot_move_10 rfl (lv_at hl 0 rfl) ?_
  refine lv_aload_n hx hb d_Spot_move_11 rfl (lv_at hl 0 rfl) ?_
  refine va_get (D := (dC, dI)) (ci := 4) (v := .ref lo) (C := R_Spot) (T := F_Spot) (N := 6) hx hb hw i_Spot hown hK hP 0 rfl rfl 0 (by decide) (hw _ m_118) (fun _ h9 => h9) rfl d_Spot_move_12 ?_
  refine lv_iload_n hx hb d_Spot_move_15 rfl (lv_at hl 1 rfl) ?_
  refine lv_aload_n hx hb d_Spot_move_16 rfl (lv_at hl 0 rfl) ?_
  refine va_get (D := (dC, dI)) (ci := 4) (v := .int sp.1) (C := R_Spot) (T := F_Spot) (N := 6) hx hb hw i_Spot hown hK hP 0 rfl rfl 1 (by decide) (hw _ m_119) (fun _ h9 => h9) rfl d_Spot_move_17 ?_
  have hPc := hP.sub (ws' := [(lo, .inr (2, [.int (nI wd), .ref lp, .ref lc, .int ch.2])), (lp, .inl (cL, ((wd + 63) / 64), .inr (.inl pf))), (lc, .inl (cI, wd, .inl ch.1))]) [1, 2, 3] rfl
  have hDc := hD.sub (ws' := [(lo, .inr (2, [.int (nI wd), .ref lp, .ref lc, .int ch.2])), (lp, .inl (cL, ((wd + 63) / 64), .inr (.inl pf))), (lc, .inl (cI, wd, .inl ch.1))]) [1, 2, 3] (by decide) rfl
  have hFc := va_free (wc := [(lo, .inr (2, [.int (nI wd), .ref lp, .ref lc, .int ch.2])), (lp, .inl (cL, ((wd + 63) / 64), .inr (.inl pf))), (lc, .inl (cI, wd, .inl ch.1))]) hD hS hA [1, 2, 3] rfl
  refine va_calli (va_runV (As := [.int to, .int sp.1]) (rest := [.ref so]) ⟨hx, hb, hml, hown, hw⟩ (c_Line_firstRightOf l dC dI cI cL lo lp lc wd pf ch H.size to sp.1 (hwd)) (cwV 2 hw (gd_V m_381 m_382 m_383 m_39 m_384) rfl rfl rfl (by decide +kernel) ⟨Nat.le_of_ble_eq_true rfl, Nat.le_of_ble_eq_true rfl⟩) ⟨fun a U g mk q => by obtain ⟨q0, q1, qP, qK, qD⟩ := q; exact ⟨q0, q1, qP, va_K.moved (u := U) (U := U.calling g mk a) (Vm.Alike.refl U.vm) qK, qD⟩, va_recv hK hPc (ci := 2) (q0 := 0) rfl rfl, fun U hU hW => ⟨rfl, by rw [hU], by rw [hU]; exact hPc, va_K.moved hW.alike hK, hDc.weaken (fun _ _ _ _ => trivial)⟩⟩ rfl rfl hl.1 rfl (lv_room (Nat.le_of_ble_eq_true rfl)) d_Spot_move_20 ⟨Nat.le_of_ble_eq_true rfl, Nat.le_of_ble_eq_true rfl⟩) hS (fun q _ h => hFc q h) hFc (fun r_1 u_1 t H1 locs ht hvm hq1 hB hz1 hk1 hS => ?_)
  obtain ⟨hP1, hK1, hD1⟩ := hB
  rw [ht] at hP1
  obtain ⟨hP, hD⟩ := va_join (wr := [(so, .inr (4, [.ref lo, .int sp.1, .int to, .int (bI bk), .int sp.2.2.2.1, .int sp.2.2.2.2]))]) (w1 := [(lo, .inr (2, [.int (nI wd), .ref lp, .ref lc, .int ch.2])), (lp, .inl (cL, ((wd + 63) / 64), .inr (.inl pf))), (lc, .inl (cI, wd, .inl ch.1))]) hP hD [1, 2, 3] [0] rfl rfl (by decide) (by decide) hk1 hFc hP1 hD1
  generalize H1 = H at hP hS ht ⊢
  have hP : va_P (dC, dI) classes [(so, .inr (4, [.ref lo, .int sp.1, .int to, .int (bI bk), .int sp.2.2.2.1, .int sp.2.2.2.2])), (lo, .inr (2, [.int (nI wd), .ref lp, .ref lc, .int ch.2])), (lp, .inl (cL, ((wd + 63) / 64), .inr (.inl pf))), (lc, .inl (cI, wd, .inl ch.1))] H := hP
  have hD : va_D A [(so, .inr (4, [.ref lo, .int sp.1, .int to, .int (bI bk), .int sp.2.2.2.1, .int sp.2.2.2.2])), (lo, .inr (2, [.int (nI wd), .ref lp, .ref lc, .int ch.2])), (lp, .inl (cL, ((wd + 63) / 64), .inr (.inl pf))), (lc, .inl (cI, wd, .inl ch.1))] := hD
  have er_1 : f_Line_firstRightOf wd ch to sp.1 = r_1 := hq1.symm
  refine va_put (D := (dC, dI)) (ci := 4) (v := .int r_1) (ty := .int) (C := R_Spot) (T := F_Spot) (N := 6) hx hb hw i_Spot t_Spot t_Spot_ok n_Spot hown hK hP hD hS 0 rfl rfl 1 (by decide) (hw _ m_119) (fun _ h9 => h9) rfl (by decide +kernel) rfl rfl (Nat.le_of_ble_eq_true rfl) d_Spot_move_23 (fun H locs hP hD hS => ?_)
  have hP : va_P (dC, dI) classes [(so, .inr (4, [.ref lo, .int r_1, .int to, .int (bI bk), .int sp.2.2.2.1, .int sp.2.2.2.2])), (lo, .inr (2, [.int (nI wd), .ref lp, .ref lc, .int ch.2])), (lp, .inl (cL, ((wd + 63) / 64), .inr (.inl pf))), (lc, .inl (cI, wd, .inl ch.1))] H := hP
  have hD : va_D A [(so, .inr (4, [.ref lo, .int r_1, .int to, .int (bI bk), .int sp.2.2.2.1, .int sp.2.2.2.2])), (lo, .inr (2, [.int (nI wd), .ref lp, .ref lc, .int ch.2])), (lp, .inl (cL, ((wd + 63) / 64), .inr (.inl pf))), (lc, .inl (cI, wd, .inl ch.1))] := hD
  refine lv_aload_n hx hb d_Spot_move_26 rfl (lv_at hl 0 rfl) ?_
  refine va_get (D := (dC, dI)) (ci := 4) (v := .int r_1) (C := R_Spot) (T := F_Spot) (N := 6) hx hb hw i_Spot hown hK hP 0 rfl rfl 1 (by decide) (hw _ m_119) (fun _ h9 => h9) rfl d_Spot_move_27 ?_
  refine lv_iconst (v := 1) hx hb d_Spot_move_30 (by decide) ?_
  refine lv_iand hx hb d_Spot_move_31 ?_
  refine lv_iconst (v := 1) hx hb d_Spot_move_32 (by decide) ?_
  refine lv_icmp_ne (tgt := 40) hx hb d_Spot_move_33 (by decide) (fun c_2 => ?_) (fun c_2 => ?_)
  · refine lv_iconst (v := 0) hx hb d_Spot_move_40 (by decide) ?_
    refine lv_istore_n (lv' := [(3, .int 0), (0, .ref so), (1, .int to), (2, .int (bI bk))]) hx hb d_Spot_move_41 rfl hl (by decide) rfl (fun ls hl => ?_)
    refine lv_iload_n hx hb d_Spot_move_42 rfl (lv_at hl 0 rfl) ?_
    refine lv_iload_n hx hb d_Spot_move_43 rfl (lv_at hl 3 rfl) ?_
    refine lv_icmp_ne (tgt := 54) hx hb d_Spot_move_44 (by decide) (fun c_3 => ?_) (fun c_3 => ?_)
    · refine lv_aload_n hx hb d_Spot_move_54 rfl (lv_at hl 1 rfl) ?_
      refine va_get (D := (dC, dI)) (ci := 4) (v := .int r_1) (C := R_Spot) (T := F_Spot) (N := 6) hx hb hw i_Spot hown hK hP 0 rfl rfl 1 (by decide) (hw _ m_119) (fun _ h9 => h9) rfl d_Spot_move_55 ?_
      refine lv_iconst (v := 1) hx hb d_Spot_move_58 (by decide) ?_
      refine lv_iadd hx hb d_Spot_move_59 ?_
      refine lv_topi (fun x_4 ex_4 => ?_)
      replace ex_4 := ex_4.symm
      refine lv_istore (lv' := [(4, .int x_4), (3, .int 0), (0, .ref so), (1, .int to), (2, .int (bI bk))]) hx hb d_Spot_move_60 hl (by decide) rfl (fun ls hl => ?_)
      refine lv_aload_n hx hb d_Spot_move_62 rfl (lv_at hl 2 rfl) ?_
      refine lv_aload_n hx hb d_Spot_move_63 rfl (lv_at hl 2 rfl) ?_
      refine va_get (D := (dC, dI)) (ci := 4) (v := .ref lo) (C := R_Spot) (T := F_Spot) (N := 6) hx hb hw i_Spot hown hK hP 0 rfl rfl 0 (by decide) (hw _ m_118) (fun _ h9 => h9) rfl d_Spot_move_64 ?_
      refine lv_iload hx hb d_Spot_move_67 (lv_at hl 0 rfl) ?_
      have hPc := hP.sub (ws' := [(lo, .inr (2, [.int (nI wd), .ref lp, .ref lc, .int ch.2])), (lp, .inl (cL, ((wd + 63) / 64), .inr (.inl pf))), (lc, .inl (cI, wd, .inl ch.1))]) [1, 2, 3] rfl
      have hDc := hD.sub (ws' := [(lo, .inr (2, [.int (nI wd), .ref lp, .ref lc, .int ch.2])), (lp, .inl (cL, ((wd + 63) / 64), .inr (.inl pf))), (lc, .inl (cI, wd, .inl ch.1))]) [1, 2, 3] (by decide) rfl
      have hFc := va_free (wc := [(lo, .inr (2, [.int (nI wd), .ref lp, .ref lc, .int ch.2])), (lp, .inl (cL, ((wd + 63) / 64), .inr (.inl pf))), (lc, .inl (cI, wd, .inl ch.1))]) hD hS hA [1, 2, 3] rfl
      refine va_calli (va_runV (As := [.int x_4]) (rest := [.ref so]) ⟨hx, hb, hml, hown, hw⟩ (c_Line_placeOf l dC dI cI cL lo lp lc wd pf ch H.size x_4 (hwd)) (cwV 1 hw (gd_V m_389 m_386 m_387 m_39 m_388) rfl rfl rfl (by decide +kernel) ⟨Nat.le_of_ble_eq_true rfl, Nat.le_of_ble_eq_true rfl⟩) ⟨fun a U g mk q => by obtain ⟨q0, q1, qP, qK, qD⟩ := q; exact ⟨q0, q1, qP, va_K.moved (u := U) (U := U.calling g mk a) (Vm.Alike.refl U.vm) qK, qD⟩, va_recv hK hPc (ci := 2) (q0 := 0) rfl rfl, fun U hU hW => ⟨rfl, by rw [hU], by rw [hU]; exact hPc, va_K.moved hW.alike hK, hDc.weaken (fun _ _ _ _ => trivial)⟩⟩ rfl rfl hl.1 rfl (lv_room (Nat.le_of_ble_eq_true rfl)) d_Spot_move_69 ⟨Nat.le_of_ble_eq_true rfl, Nat.le_of_ble_eq_true rfl⟩) hS (fun q _ h => hFc q h) hFc (fun r_5 u_5 t H1 locs ht hvm hq5 hB hz1 hk1 hS => ?_)
      obtain ⟨hP1, hK1, hD1⟩ := hB
      rw [ht] at hP1
      obtain ⟨hP, hD⟩ := va_join (wr := [(so, .inr (4, [.ref lo, .int r_1, .int to, .int (bI bk), .int sp.2.2.2.1, .int sp.2.2.2.2]))]) (w1 := [(lo, .inr (2, [.int (nI wd), .ref lp, .ref lc, .int ch.2])), (lp, .inl (cL, ((wd + 63) / 64), .inr (.inl pf))), (lc, .inl (cI, wd, .inl ch.1))]) hP hD [1, 2, 3] [0] rfl rfl (by decide) (by decide) hk1 hFc hP1 hD1
      generalize H1 = H at hP hS ht ⊢
      have hP : va_P (dC, dI) classes [(so, .inr (4, [.ref lo, .int r_1, .int to, .int (bI bk), .int sp.2.2.2.1, .int sp.2.2.2.2])), (lo, .inr (2, [.int (nI wd), .ref lp, .ref lc, .int ch.2])), (lp, .inl (cL, ((wd + 63) / 64), .inr (.inl pf))), (lc, .inl (cI, wd, .inl ch.1))] H := hP
      have hD : va_D A [(so, .inr (4, [.ref lo, .int r_1, .int to, .int (bI bk), .int sp.2.2.2.1, .int sp.2.2.2.2])), (lo, .inr (2, [.int (nI wd), .ref lp, .ref lc, .int ch.2])), (lp, .inl (cL, ((wd + 63) / 64), .inr (.inl pf))), (lc, .inl (cI, wd, .inl ch.1))] := hD
      have er_5 : f_Line_placeOf wd ch x_4 = r_5 := hq5.symm
      refine va_put (D := (dC, dI)) (ci := 4) (v := .int r_5) (ty := .int) (C := R_Spot) (T := F_Spot) (N := 6) hx hb hw i_Spot t_Spot t_Spot_ok n_Spot hown hK hP hD hS 0 rfl rfl 4 (by decide) (hw _ m_126) (fun _ h9 => h9) rfl (by decide +kernel) rfl rfl (Nat.le_of_ble_eq_true rfl) d_Spot_move_72 (fun H locs hP hD hS => ?_)
      have hP : va_P (dC, dI) classes [(so, .inr (4, [.ref lo, .int r_1, .int to, .int (bI bk), .int r_5, .int sp.2.2.2.2])), (lo, .inr (2, [.int (nI wd), .ref lp, .ref lc, .int ch.2])), (lp, .inl (cL, ((wd + 63) / 64), .inr (.inl pf))), (lc, .inl (cI, wd, .inl ch.1))] H := hP
      have hD : va_D A [(so, .inr (4, [.ref lo, .int r_1, .int to, .int (bI bk), .int r_5, .int sp.2.2.2.2])), (lo, .inr (2, [.int (nI wd), .ref lp, .ref lc, .int ch.2])), (lp, .inl (cL, ((wd + 63) / 64), .inr (.inl pf))), (lc, .inl (cI, wd, .inl ch.1))] := hD
      refine lv_aload_n hx hb d_Spot_move_75 rfl (lv_at hl 2 rfl) ?_
      refine lv_aload_n hx hb d_Spot_move_76 rfl (lv_at hl 2 rfl) ?_
      refine va_get (D := (dC, dI)) (ci := 4) (v := .ref lo) (C := R_Spot) (T := F_Spot) (N := 6) hx hb hw i_Spot hown hK hP 0 rfl rfl 0 (by decide) (hw _ m_118) (fun _ h9 => h9) rfl d_Spot_move_77 ?_
      refine lv_iload hx hb d_Spot_move_80 (lv_at hl 0 rfl) ?_
      refine lv_iconst (v := 1) hx hb d_Spot_move_82 (by decide) ?_
      refine lv_iadd hx hb d_Spot_move_83 ?_
      have hPc := hP.sub (ws' := [(lo, .inr (2, [.int (nI wd), .ref lp, .ref lc, .int ch.2])), (lp, .inl (cL, ((wd + 63) / 64), .inr (.inl pf))), (lc, .inl (cI, wd, .inl ch.1))]) [1, 2, 3] rfl
      have hDc := hD.sub (ws' := [(lo, .inr (2, [.int (nI wd), .ref lp, .ref lc, .int ch.2])), (lp, .inl (cL, ((wd + 63) / 64), .inr (.inl pf))), (lc, .inl (cI, wd, .inl ch.1))]) [1, 2, 3] (by decide) rfl
      have hFc := va_free (wc := [(lo, .inr (2, [.int (nI wd), .ref lp, .ref lc, .int ch.2])), (lp, .inl (cL, ((wd + 63) / 64), .inr (.inl pf))), (lc, .inl (cI, wd, .inl ch.1))]) hD hS hA [1, 2, 3] rfl
      refine va_calli (va_runV (As := [.int (x_4 + 1)]) (rest := [.ref so]) ⟨hx, hb, hml, hown, hw⟩ (c_Line_placeOf l dC dI cI cL lo lp lc wd pf ch H.size (x_4 + 1) (hwd)) (cwV 1 hw (gd_V m_389 m_386 m_387 m_39 m_388) rfl rfl rfl (by decide +kernel) ⟨Nat.le_of_ble_eq_true rfl, Nat.le_of_ble_eq_true rfl⟩) ⟨fun a U g mk q => by obtain ⟨q0, q1, qP, qK, qD⟩ := q; exact ⟨q0, q1, qP, va_K.moved (u := U) (U := U.calling g mk a) (Vm.Alike.refl U.vm) qK, qD⟩, va_recv hK hPc (ci := 2) (q0 := 0) rfl rfl, fun U hU hW => ⟨rfl, by rw [hU], by rw [hU]; exact hPc, va_K.moved hW.alike hK, hDc.weaken (fun _ _ _ _ => trivial)⟩⟩ rfl rfl hl.1 rfl (lv_room (Nat.le_of_ble_eq_true rfl)) d_Spot_move_84 ⟨Nat.le_of_ble_eq_true rfl, Nat.le_of_ble_eq_true rfl⟩) hS (fun q _ h => hFc q h) hFc (fun r_6 u_6 t H1 locs ht hvm hq6 hB hz1 hk1 hS => ?_)
      obtain ⟨hP1, hK1, hD1⟩ := hB
      rw [ht] at hP1
      obtain ⟨hP, hD⟩ := va_join (wr := [(so, .inr (4, [.ref lo, .int r_1, .int to, .int (bI bk), .int r_5, .int sp.2.2.2.2]))]) (w1 := [(lo, .inr (2, [.int (nI wd), .ref lp, .ref lc, .int ch.2])), (lp, .inl (cL, ((wd + 63) / 64), .inr (.inl pf))), (lc, .inl (cI, wd, .inl ch.1))]) hP hD [1, 2, 3] [0] rfl rfl (by decide) (by decide) hk1 hFc hP1 hD1
      generalize H1 = H at hP hS ht ⊢
      have hP : va_P (dC, dI) classes [(so, .inr (4, [.ref lo, .int r_1, .int to, .int (bI bk), .int r_5, .int sp.2.2.2.2])), (lo, .inr (2, [.int (nI wd), .ref lp, .ref lc, .int ch.2])), (lp, .inl (cL, ((wd + 63) / 64), .inr (.inl pf))), (lc, .inl (cI, wd, .inl ch.1))] H := hP
      have hD : va_D A [(so, .inr (4, [.ref lo, .int r_1, .int to, .int (bI bk), .int r_5, .int sp.2.2.2.2])), (lo, .inr (2, [.int (nI wd), .ref lp, .ref lc, .int ch.2])), (lp, .inl (cL, ((wd + 63) / 64), .inr (.inl pf))), (lc, .inl (cI, wd, .inl ch.1))] := hD
      have er_6 : f_Line_placeOf wd ch (x_4 + 1) = r_6 := hq6.symm
      refine va_put (D := (dC, dI)) (ci := 4) (v := .int r_6) (ty := .int) (C := R_Spot) (T := F_Spot) (N := 6) hx hb hw i_Spot t_Spot t_Spot_ok n_Spot hown hK hP hD hS 0 rfl rfl 5 (by decide) (hw _ m_129) (fun _ h9 => h9) rfl (by decide +kernel) rfl rfl (Nat.le_of_ble_eq_true rfl) d_Spot_move_87 (fun H locs hP hD hS => ?_)
      have hP : va_P (dC, dI) classes [(so, .inr (4, [.ref lo, .int r_1, .int to, .int (bI bk), .int r_5, .int r_6])), (lo, .inr (2, [.int (nI wd), .ref lp, .ref lc, .int ch.2])), (lp, .inl (cL, ((wd + 63) / 64), .inr (.inl pf))), (lc, .inl (cI, wd, .inl ch.1))] H := hP
      have hD : va_D A [(so, .inr (4, [.ref lo, .int r_1, .int to, .int (bI bk), .int r_5, .int r_6])), (lo, .inr (2, [.int (nI wd), .ref lp, .ref lc, .int ch.2])), (lp, .inl (cL, ((wd + 63) / 64), .inr (.inl pf))), (lc, .inl (cI, wd, .inl ch.1))] := hD
      have hP9 := hP.sub (ws' := [(so, .inr (4, [.ref lo, .int r_1, .int to, .int (bI bk), .int r_5, .int r_6])), (lo, .inr (2, [.int (nI wd), .ref lp, .ref lc, .int ch.2])), (lp, .inl (cL, ((wd + 63) / 64), .inr (.inl pf))), (lc, .inl (cI, wd, .inl ch.1))]) [0, 1, 2, 3] rfl
      have hD9 := hD.sub (ws' := [(so, .inr (4, [.ref lo, .int r_1, .int to, .int (bI bk), .int r_5, .int r_6])), (lo, .inr (2, [.int (nI wd), .ref lp, .ref lc, .int ch.2])), (lp, .inl (cL, ((wd + 63) / 64), .inr (.inl pf))), (lc, .inl (cI, wd, .inl ch.1))]) [0, 1, 2, 3] (by decide) rfl
      have hK9 := hK
      exact W.vret hx hb hr (fun t ht hW => ⟨⟨(r_1, to, bk, r_5, r_6), rfl, (by have h9 : f_Spot_move wd ch sp to bk = (r_1, to, bk, r_5, r_6) := (by subst er_1 ex_4 er_5 er_6; exact ((if_neg c_2).trans ((if_neg c_3).trans (rfl)))); exact h9.symm), ⟨by rw [ht]; exact hP9, va_K.moved hW.alike hK9, hD9⟩⟩, hS.F ht⟩) hS.2.2 d_Spot_move_90
    · refine lv_aload_n hx hb d_Spot_move_47 rfl (lv_at hl 1 rfl) ?_
      refine va_get (D := (dC, dI)) (ci := 4) (v := .int r_1) (C := R_Spot) (T := F_Spot) (N := 6) hx hb hw i_Spot hown hK hP 0 rfl rfl 1 (by decide) (hw _ m_119) (fun _ h9 => h9) rfl d_Spot_move_48 ?_
      refine lv_goto (tgt := 60) hx hb d_Spot_move_51 (by decide) ?_
      refine lv_istore (lv' := [(4, .int r_1), (3, .int 0), (0, .ref so), (1, .int to), (2, .int (bI bk))]) hx hb d_Spot_move_60 hl (by decide) rfl (fun ls hl => ?_)
      refine lv_aload_n hx hb d_Spot_move_62 rfl (lv_at hl 2 rfl) ?_
      refine lv_aload_n hx hb d_Spot_move_63 rfl (lv_at hl 2 rfl) ?_
      refine va_get (D := (dC, dI)) (ci := 4) (v := .ref lo) (C := R_Spot) (T := F_Spot) (N := 6) hx hb hw i_Spot hown hK hP 0 rfl rfl 0 (by decide) (hw _ m_118) (fun _ h9 => h9) rfl d_Spot_move_64 ?_
      refine lv_iload hx hb d_Spot_move_67 (lv_at hl 0 rfl) ?_
      have hPc := hP.sub (ws' := [(lo, .inr (2, [.int (nI wd), .ref lp, .ref lc, .int ch.2])), (lp, .inl (cL, ((wd + 63) / 64), .inr (.inl pf))), (lc, .inl (cI, wd, .inl ch.1))]) [1, 2, 3] rfl
      have hDc := hD.sub (ws' := [(lo, .inr (2, [.int (nI wd), .ref lp, .ref lc, .int ch.2])), (lp, .inl (cL, ((wd + 63) / 64), .inr (.inl pf))), (lc, .inl (cI, wd, .inl ch.1))]) [1, 2, 3] (by decide) rfl
      have hFc := va_free (wc := [(lo, .inr (2, [.int (nI wd), .ref lp, .ref lc, .int ch.2])), (lp, .inl (cL, ((wd + 63) / 64), .inr (.inl pf))), (lc, .inl (cI, wd, .inl ch.1))]) hD hS hA [1, 2, 3] rfl
      refine va_calli (va_runV (As := [.int r_1]) (rest := [.ref so]) ⟨hx, hb, hml, hown, hw⟩ (c_Line_placeOf l dC dI cI cL lo lp lc wd pf ch H.size r_1 (hwd)) (cwV 1 hw (gd_V m_389 m_386 m_387 m_39 m_388) rfl rfl rfl (by decide +kernel) ⟨Nat.le_of_ble_eq_true rfl, Nat.le_of_ble_eq_true rfl⟩) ⟨fun a U g mk q => by obtain ⟨q0, q1, qP, qK, qD⟩ := q; exact ⟨q0, q1, qP, va_K.moved (u := U) (U := U.calling g mk a) (Vm.Alike.refl U.vm) qK, qD⟩, va_recv hK hPc (ci := 2) (q0 := 0) rfl rfl, fun U hU hW => ⟨rfl, by rw [hU], by rw [hU]; exact hPc, va_K.moved hW.alike hK, hDc.weaken (fun _ _ _ _ => trivial)⟩⟩ rfl rfl hl.1 rfl (lv_room (Nat.le_of_ble_eq_true rfl)) d_Spot_move_69 ⟨Nat.le_of_ble_eq_true rfl, Nat.le_of_ble_eq_true rfl⟩) hS (fun q _ h => hFc q h) hFc (fun r_7 u_7 t H1 locs ht hvm hq7 hB hz1 hk1 hS => ?_)
      obtain ⟨hP1, hK1, hD1⟩ := hB
      rw [ht] at hP1
      obtain ⟨hP, hD⟩ := va_join (wr := [(so, .inr (4, [.ref lo, .int r_1, .int to, .int (bI bk), .int sp.2.2.2.1, .int sp.2.2.2.2]))]) (w1 := [(lo, .inr (2, [.int (nI wd), .ref lp, .ref lc, .int ch.2])), (lp, .inl (cL, ((wd + 63) / 64), .inr (.inl pf))), (lc, .inl (cI, wd, .inl ch.1))]) hP hD [1, 2, 3] [0] rfl rfl (by decide) (by decide) hk1 hFc hP1 hD1
      generalize H1 = H at hP hS ht ⊢
      have hP : va_P (dC, dI) classes [(so, .inr (4, [.ref lo, .int r_1, .int to, .int (bI bk), .int sp.2.2.2.1, .int sp.2.2.2.2])), (lo, .inr (2, [.int (nI wd), .ref lp, .ref lc, .int ch.2])), (lp, .inl (cL, ((wd + 63) / 64), .inr (.inl pf))), (lc, .inl (cI, wd, .inl ch.1))] H := hP
      have hD : va_D A [(so, .inr (4, [.ref lo, .int r_1, .int to, .int (bI bk), .int sp.2.2.2.1, .int sp.2.2.2.2])), (lo, .inr (2, [.int (nI wd), .ref lp, .ref lc, .int ch.2])), (lp, .inl (cL, ((wd + 63) / 64), .inr (.inl pf))), (lc, .inl (cI, wd, .inl ch.1))] := hD
      have er_7 : f_Line_placeOf wd ch r_1 = r_7 := hq7.symm
      refine va_put (D := (dC, dI)) (ci := 4) (v := .int r_7) (ty := .int) (C := R_Spot) (T := F_Spot) (N := 6) hx hb hw i_Spot t_Spot t_Spot_ok n_Spot hown hK hP hD hS 0 rfl rfl 4 (by decide) (hw _ m_126) (fun _ h9 => h9) rfl (by decide +kernel) rfl rfl (Nat.le_of_ble_eq_true rfl) d_Spot_move_72 (fun H locs hP hD hS => ?_)
      have hP : va_P (dC, dI) classes [(so, .inr (4, [.ref lo, .int r_1, .int to, .int (bI bk), .int r_7, .int sp.2.2.2.2])), (lo, .inr (2, [.int (nI wd), .ref lp, .ref lc, .int ch.2])), (lp, .inl (cL, ((wd + 63) / 64), .inr (.inl pf))), (lc, .inl (cI, wd, .inl ch.1))] H := hP
      have hD : va_D A [(so, .inr (4, [.ref lo, .int r_1, .int to, .int (bI bk), .int r_7, .int sp.2.2.2.2])), (lo, .inr (2, [.int (nI wd), .ref lp, .ref lc, .int ch.2])), (lp, .inl (cL, ((wd + 63) / 64), .inr (.inl pf))), (lc, .inl (cI, wd, .inl ch.1))] := hD
      refine lv_aload_n hx hb d_Spot_move_75 rfl (lv_at hl 2 rfl) ?_
      refine lv_aload_n hx hb d_Spot_move_76 rfl (lv_at hl 2 rfl) ?_
      refine va_get (D := (dC, dI)) (ci := 4) (v := .ref lo) (C := R_Spot) (T := F_Spot) (N := 6) hx hb hw i_Spot hown hK hP 0 rfl rfl 0 (by decide) (hw _ m_118) (fun _ h9 => h9) rfl d_Spot_move_77 ?_
      refine lv_iload hx hb d_Spot_move_80 (lv_at hl 0 rfl) ?_
      refine lv_iconst (v := 1) hx hb d_Spot_move_82 (by decide) ?_
      refine lv_iadd hx hb d_Spot_move_83 ?_
      have hPc := hP.sub (ws' := [(lo, .inr (2, [.int (nI wd), .ref lp, .ref lc, .int ch.2])), (lp, .inl (cL, ((wd + 63) / 64), .inr (.inl pf))), (lc, .inl (cI, wd, .inl ch.1))]) [1, 2, 3] rfl
      have hDc := hD.sub (ws' := [(lo, .inr (2, [.int (nI wd), .ref lp, .ref lc, .int ch.2])), (lp, .inl (cL, ((wd + 63) / 64), .inr (.inl pf))), (lc, .inl (cI, wd, .inl ch.1))]) [1, 2, 3] (by decide) rfl
      have hFc := va_free (wc := [(lo, .inr (2, [.int (nI wd), .ref lp, .ref lc, .int ch.2])), (lp, .inl (cL, ((wd + 63) / 64), .inr (.inl pf))), (lc, .inl (cI, wd, .inl ch.1))]) hD hS hA [1, 2, 3] rfl
      refine va_calli (va_runV (As := [.int (r_1 + 1)]) (rest := [.ref so]) ⟨hx, hb, hml, hown, hw⟩ (c_Line_placeOf l dC dI cI cL lo lp lc wd pf ch H.size (r_1 + 1) (hwd)) (cwV 1 hw (gd_V m_389 m_386 m_387 m_39 m_388) rfl rfl rfl (by decide +kernel) ⟨Nat.le_of_ble_eq_true rfl, Nat.le_of_ble_eq_true rfl⟩) ⟨fun a U g mk q => by obtain ⟨q0, q1, qP, qK, qD⟩ := q; exact ⟨q0, q1, qP, va_K.moved (u := U) (U := U.calling g mk a) (Vm.Alike.refl U.vm) qK, qD⟩, va_recv hK hPc (ci := 2) (q0 := 0) rfl rfl, fun U hU hW => ⟨rfl, by rw [hU], by rw [hU]; exact hPc, va_K.moved hW.alike hK, hDc.weaken (fun _ _ _ _ => trivial)⟩⟩ rfl rfl hl.1 rfl (lv_room (Nat.le_of_ble_eq_true rfl)) d_Spot_move_84 ⟨Nat.le_of_ble_eq_true rfl, Nat.le_of_ble_eq_true rfl⟩) hS (fun q _ h => hFc q h) hFc (fun r_8 u_8 t H1 locs ht hvm hq8 hB hz1 hk1 hS => ?_)
      obtain ⟨hP1, hK1, hD1⟩ := hB
      rw [ht] at hP1
      obtain ⟨hP, hD⟩ := va_join (wr := [(so, .inr (4, [.ref lo, .int r_1, .int to, .int (bI bk), .int r_7, .int sp.2.2.2.2]))]) (w1 := [(lo, .inr (2, [.int (nI wd), .ref lp, .ref lc, .int ch.2])), (lp, .inl (cL, ((wd + 63) / 64), .inr (.inl pf))), (lc, .inl (cI, wd, .inl ch.1))]) hP hD [1, 2, 3] [0] rfl rfl (by decide) (by decide) hk1 hFc hP1 hD1
      generalize H1 = H at hP hS ht ⊢
      have hP : va_P (dC, dI) classes [(so, .inr (4, [.ref lo, .int r_1, .int to, .int (bI bk), .int r_7, .int sp.2.2.2.2])), (lo, .inr (2, [.int (nI wd), .ref lp, .ref lc, .int ch.2])), (lp, .inl (cL, ((wd + 63) / 64), .inr (.inl pf))), (lc, .inl (cI, wd, .inl ch.1))] H := hP
      have hD : va_D A [(so, .inr (4, [.ref lo, .int r_1, .int to, .int (bI bk), .int r_7, .int sp.2.2.2.2])), (lo, .inr (2, [.int (nI wd), .ref lp, .ref lc, .int ch.2])), (lp, .inl (cL, ((wd + 63) / 64), .inr (.inl pf))), (lc, .inl (cI, wd, .inl ch.1))] := hD
      have er_8 : f_Line_placeOf wd ch (r_1 + 1) = r_8 := hq8.symm
      refine va_put (D := (dC, dI)) (ci := 4) (v := .int r_8) (ty := .int) (C := R_Spot) (T := F_Spot) (N := 6) hx hb hw i_Spot t_Spot t_Spot_ok n_Spot hown hK hP hD hS 0 rfl rfl 5 (by decide) (hw _ m_129) (fun _ h9 => h9) rfl (by decide +kernel) rfl rfl (Nat.le_of_ble_eq_true rfl) d_Spot_move_87 (fun H locs hP hD hS => ?_)
      have hP : va_P (dC, dI) classes [(so, .inr (4, [.ref lo, .int r_1, .int to, .int (bI bk), .int r_7, .int r_8])), (lo, .inr (2, [.int (nI wd), .ref lp, .ref lc, .int ch.2])), (lp, .inl (cL, ((wd + 63) / 64), .inr (.inl pf))), (lc, .inl (cI, wd, .inl ch.1))] H := hP
      have hD : va_D A [(so, .inr (4, [.ref lo, .int r_1, .int to, .int (bI bk), .int r_7, .int r_8])), (lo, .inr (2, [.int (nI wd), .ref lp, .ref lc, .int ch.2])), (lp, .inl (cL, ((wd + 63) / 64), .inr (.inl pf))), (lc, .inl (cI, wd, .inl ch.1))] := hD
      have hP9 := hP.sub (ws' := [(so, .inr (4, [.ref lo, .int r_1, .int to, .int (bI bk), .int r_7, .int r_8])), (lo, .inr (2, [.int (nI wd), .ref lp, .ref lc, .int ch.2])), (lp, .inl (cL, ((wd + 63) / 64), .inr (.inl pf))), (lc, .inl (cI, wd, .inl ch.1))]) [0, 1, 2, 3] rfl
      have hD9 := hD.sub (ws' := [(so, .inr (4, [.ref lo, .int r_1, .int to, .int (bI bk), .int r_7, .int r_8])), (lo, .inr (2, [.int (nI wd), .ref lp, .ref lc, .int ch.2])), (lp, .inl (cL, ((wd + 63) / 64), .inr (.inl pf))), (lc, .inl (cI, wd, .inl ch.1))]) [0, 1, 2, 3] (by decide) rfl
      have hK9 := hK
      exact W.vret hx hb hr (fun t ht hW => ⟨⟨(r_1, to, bk, r_7, r_8), rfl, (by have h9 : f_Spot_move wd ch sp to bk = (r_1, to, bk, r_7, r_8) := (by subst er_1 er_7 er_8; exact ((if_neg c_2).trans ((if_pos c_3).trans (rfl)))); exact h9.symm), ⟨by rw [ht]; exact hP9, va_K.moved hW.alike hK9, hD9⟩⟩, hS.F ht⟩) hS.2.2 d_Spot_move_90
  · refine lv_iconst (v := 1) hx hb d_Spot_move_36 (by decide) ?_
    refine lv_goto (tgt := 41) hx hb d_Spot_move_37 (by decide) ?_
    refine lv_istore_n (lv' := [(3, .int 1), (0, .ref so), (1, .int to), (2, .int (bI bk))]) hx hb d_Spot_move_41 rfl hl (by decide) rfl (fun ls hl => ?_)
    refine lv_iload_n hx hb d_Spot_move_42 rfl (lv_at hl 0 rfl) ?_
    refine lv_iload_n hx hb d_Spot_move_43 rfl (lv_at hl 3 rfl) ?_
    refine lv_icmp_ne (tgt := 54) hx hb d_Spot_move_44 (by decide) (fun c_9 => ?_) (fun c_9 => ?_)
    · refine lv_aload_n hx hb d_Spot_move_54 rfl (lv_at hl 1 rfl) ?_
      refine va_get (D := (dC, dI)) (ci := 4) (v := .int r_1) (C := R_Spot) (T := F_Spot) (N := 6) hx hb hw i_Spot hown hK hP 0 rfl rfl 1 (by decide) (hw _ m_119) (fun _ h9 => h9) rfl d_Spot_move_55 ?_
      refine lv_iconst (v := 1) hx hb d_Spot_move_58 (by decide) ?_
      refine lv_iadd hx hb d_Spot_move_59 ?_
      refine lv_topi (fun x_10 ex_10 => ?_)
      replace ex_10 := ex_10.symm
      refine lv_istore (lv' := [(4, .int x_10), (3, .int 1), (0, .ref so), (1, .int to), (2, .int (bI bk))]) hx hb d_Spot_move_60 hl (by decide) rfl (fun ls hl => ?_)
      refine lv_aload_n hx hb d_Spot_move_62 rfl (lv_at hl 2 rfl) ?_
      refine lv_aload_n hx hb d_Spot_move_63 rfl (lv_at hl 2 rfl) ?_
      refine va_get (D := (dC, dI)) (ci := 4) (v := .ref lo) (C := R_Spot) (T := F_Spot) (N := 6) hx hb hw i_Spot hown hK hP 0 rfl rfl 0 (by decide) (hw _ m_118) (fun _ h9 => h9) rfl d_Spot_move_64 ?_
      refine lv_iload hx hb d_Spot_move_67 (lv_at hl 0 rfl) ?_
      have hPc := hP.sub (ws' := [(lo, .inr (2, [.int (nI wd), .ref lp, .ref lc, .int ch.2])), (lp, .inl (cL, ((wd + 63) / 64), .inr (.inl pf))), (lc, .inl (cI, wd, .inl ch.1))]) [1, 2, 3] rfl
      have hDc := hD.sub (ws' := [(lo, .inr (2, [.int (nI wd), .ref lp, .ref lc, .int ch.2])), (lp, .inl (cL, ((wd + 63) / 64), .inr (.inl pf))), (lc, .inl (cI, wd, .inl ch.1))]) [1, 2, 3] (by decide) rfl
      have hFc := va_free (wc := [(lo, .inr (2, [.int (nI wd), .ref lp, .ref lc, .int ch.2])), (lp, .inl (cL, ((wd + 63) / 64), .inr (.inl pf))), (lc, .inl (cI, wd, .inl ch.1))]) hD hS hA [1, 2, 3] rfl
      refine va_calli (va_runV (As := [.int x_10]) (rest := [.ref so]) ⟨hx, hb, hml, hown, hw⟩ (c_Line_placeOf l dC dI cI cL lo lp lc wd pf ch H.size x_10 (hwd)) (cwV 1 hw (gd_V m_389 m_386 m_387 m_39 m_388) rfl rfl rfl (by decide +kernel) ⟨Nat.le_of_ble_eq_true rfl, Nat.le_of_ble_eq_true rfl⟩) ⟨fun a U g mk q => by obtain ⟨q0, q1, qP, qK, qD⟩ := q; exact ⟨q0, q1, qP, va_K.moved (u := U) (U := U.calling g mk a) (Vm.Alike.refl U.vm) qK, qD⟩, va_recv hK hPc (ci := 2) (q0 := 0) rfl rfl, fun U hU hW => ⟨rfl, by rw [hU], by rw [hU]; exact hPc, va_K.moved hW.alike hK, hDc.weaken (fun _ _ _ _ => trivial)⟩⟩ rfl rfl hl.1 rfl (lv_room (Nat.le_of_ble_eq_true rfl)) d_Spot_move_69 ⟨Nat.le_of_ble_eq_true rfl, Nat.le_of_ble_eq_true rfl⟩) hS (fun q _ h => hFc q h) hFc (fun r_11 u_11 t H1 locs ht hvm hq11 hB hz1 hk1 hS => ?_)
      obtain ⟨hP1, hK1, hD1⟩ := hB
      rw [ht] at hP1
      obtain ⟨hP, hD⟩ := va_join (wr := [(so, .inr (4, [.ref lo, .int r_1, .int to, .int (bI bk), .int sp.2.2.2.1, .int sp.2.2.2.2]))]) (w1 := [(lo, .inr (2, [.int (nI wd), .ref lp, .ref lc, .int ch.2])), (lp, .inl (cL, ((wd + 63) / 64), .inr (.inl pf))), (lc, .inl (cI, wd, .inl ch.1))]) hP hD [1, 2, 3] [0] rfl rfl (by decide) (by decide) hk1 hFc hP1 hD1
      generalize H1 = H at hP hS ht ⊢
      have hP : va_P (dC, dI) classes [(so, .inr (4, [.ref lo, .int r_1, .int to, .int (bI bk), .int sp.2.2.2.1, .int sp.2.2.2.2])), (lo, .inr (2, [.int (nI wd), .ref lp, .ref lc, .int ch.2])), (lp, .inl (cL, ((wd + 63) / 64), .inr (.inl pf))), (lc, .inl (cI, wd, .inl ch.1))] H := hP
      have hD : va_D A [(so, .inr (4, [.ref lo, .int r_1, .int to, .int (bI bk), .int sp.2.2.2.1, .int sp.2.2.2.2])), (lo, .inr (2, [.int (nI wd), .ref lp, .ref lc, .int ch.2])), (lp, .inl (cL, ((wd + 63) / 64), .inr (.inl pf))), (lc, .inl (cI, wd, .inl ch.1))] := hD
      have er_11 : f_Line_placeOf wd ch x_10 = r_11 := hq11.symm
      refine va_put (D := (dC, dI)) (ci := 4) (v := .int r_11) (ty := .int) (C := R_Spot) (T := F_Spot) (N := 6) hx hb hw i_Spot t_Spot t_Spot_ok n_Spot hown hK hP hD hS 0 rfl rfl 4 (by decide) (hw _ m_126) (fun _ h9 => h9) rfl (by decide +kernel) rfl rfl (Nat.le_of_ble_eq_true rfl) d_Spot_move_72 (fun H locs hP hD hS => ?_)
      have hP : va_P (dC, dI) classes [(so, .inr (4, [.ref lo, .int r_1, .int to, .int (bI bk), .int r_11, .int sp.2.2.2.2])), (lo, .inr (2, [.int (nI wd), .ref lp, .ref lc, .int ch.2])), (lp, .inl (cL, ((wd + 63) / 64), .inr (.inl pf))), (lc, .inl (cI, wd, .inl ch.1))] H := hP
      have hD : va_D A [(so, .inr (4, [.ref lo, .int r_1, .int to, .int (bI bk), .int r_11, .int sp.2.2.2.2])), (lo, .inr (2, [.int (nI wd), .ref lp, .ref lc, .int ch.2])), (lp, .inl (cL, ((wd + 63) / 64), .inr (.inl pf))), (lc, .inl (cI, wd, .inl ch.1))] := hD
      refine lv_aload_n hx hb d_Spot_move_75 rfl (lv_at hl 2 rfl) ?_
      refine lv_aload_n hx hb d_Spot_move_76 rfl (lv_at hl 2 rfl) ?_
      refine va_get (D := (dC, dI)) (ci := 4) (v := .ref lo) (C := R_Spot) (T := F_Spot) (N := 6) hx hb hw i_Spot hown hK hP 0 rfl rfl 0 (by decide) (hw _ m_118) (fun _ h9 => h9) rfl d_Spot_move_77 ?_
      refine lv_iload hx hb d_Spot_move_80 (lv_at hl 0 rfl) ?_
      refine lv_iconst (v := 1) hx hb d_Spot_move_82 (by decide) ?_
      refine lv_iadd hx hb d_Spot_move_83 ?_
      have hPc := hP.sub (ws' := [(lo, .inr (2, [.int (nI wd), .ref lp, .ref lc, .int ch.2])), (lp, .inl (cL, ((wd + 63) / 64), .inr (.inl pf))), (lc, .inl (cI, wd, .inl ch.1))]) [1, 2, 3] rfl
      have hDc := hD.sub (ws' := [(lo, .inr (2, [.int (nI wd), .ref lp, .ref lc, .int ch.2])), (lp, .inl (cL, ((wd + 63) / 64), .inr (.inl pf))), (lc, .inl (cI, wd, .inl ch.1))]) [1, 2, 3] (by decide) rfl
      have hFc := va_free (wc := [(lo, .inr (2, [.int (nI wd), .ref lp, .ref lc, .int ch.2])), (lp, .inl (cL, ((wd + 63) / 64), .inr (.inl pf))), (lc, .inl (cI, wd, .inl ch.1))]) hD hS hA [1, 2, 3] rfl
      refine va_calli (va_runV (As := [.int (x_10 + 1)]) (rest := [.ref so]) ⟨hx, hb, hml, hown, hw⟩ (c_Line_placeOf l dC dI cI cL lo lp lc wd pf ch H.size (x_10 + 1) (hwd)) (cwV 1 hw (gd_V m_389 m_386 m_387 m_39 m_388) rfl rfl rfl (by decide +kernel) ⟨Nat.le_of_ble_eq_true rfl, Nat.le_of_ble_eq_true rfl⟩) ⟨fun a U g mk q => by obtain ⟨q0, q1, qP, qK, qD⟩ := q; exact ⟨q0, q1, qP, va_K.moved (u := U) (U := U.calling g mk a) (Vm.Alike.refl U.vm) qK, qD⟩, va_recv hK hPc (ci := 2) (q0 := 0) rfl rfl, fun U hU hW => ⟨rfl, by rw [hU], by rw [hU]; exact hPc, va_K.moved hW.alike hK, hDc.weaken (fun _ _ _ _ => trivial)⟩⟩ rfl rfl hl.1 rfl (lv_room (Nat.le_of_ble_eq_true rfl)) d_Spot_move_84 ⟨Nat.le_of_ble_eq_true rfl, Nat.le_of_ble_eq_true rfl⟩) hS (fun q _ h => hFc q h) hFc (fun r_12 u_12 t H1 locs ht hvm hq12 hB hz1 hk1 hS => ?_)
      obtain ⟨hP1, hK1, hD1⟩ := hB
      rw [ht] at hP1
      obtain ⟨hP, hD⟩ := va_join (wr := [(so, .inr (4, [.ref lo, .int r_1, .int to, .int (bI bk), .int r_11, .int sp.2.2.2.2]))]) (w1 := [(lo, .inr (2, [.int (nI wd), .ref lp, .ref lc, .int ch.2])), (lp, .inl (cL, ((wd + 63) / 64), .inr (.inl pf))), (lc, .inl (cI, wd, .inl ch.1))]) hP hD [1, 2, 3] [0] rfl rfl (by decide) (by decide) hk1 hFc hP1 hD1
      generalize H1 = H at hP hS ht ⊢
      have hP : va_P (dC, dI) classes [(so, .inr (4, [.ref lo, .int r_1, .int to, .int (bI bk), .int r_11, .int sp.2.2.2.2])), (lo, .inr (2, [.int (nI wd), .ref lp, .ref lc, .int ch.2])), (lp, .inl (cL, ((wd + 63) / 64), .inr (.inl pf))), (lc, .inl (cI, wd, .inl ch.1))] H := hP
      have hD : va_D A [(so, .inr (4, [.ref lo, .int r_1, .int to, .int (bI bk), .int r_11, .int sp.2.2.2.2])), (lo, .inr (2, [.int (nI wd), .ref lp, .ref lc, .int ch.2])), (lp, .inl (cL, ((wd + 63) / 64), .inr (.inl pf))), (lc, .inl (cI, wd, .inl ch.1))] := hD
      have er_12 : f_Line_placeOf wd ch (x_10 + 1) = r_12 := hq12.symm
      refine va_put (D := (dC, dI)) (ci := 4) (v := .int r_12) (ty := .int) (C := R_Spot) (T := F_Spot) (N := 6) hx hb hw i_Spot t_Spot t_Spot_ok n_Spot hown hK hP hD hS 0 rfl rfl 5 (by decide) (hw _ m_129) (fun _ h9 => h9) rfl (by decide +kernel) rfl rfl (Nat.le_of_ble_eq_true rfl) d_Spot_move_87 (fun H locs hP hD hS => ?_)
      have hP : va_P (dC, dI) classes [(so, .inr (4, [.ref lo, .int r_1, .int to, .int (bI bk), .int r_11, .int r_12])), (lo, .inr (2, [.int (nI wd), .ref lp, .ref lc, .int ch.2])), (lp, .inl (cL, ((wd + 63) / 64), .inr (.inl pf))), (lc, .inl (cI, wd, .inl ch.1))] H := hP
      have hD : va_D A [(so, .inr (4, [.ref lo, .int r_1, .int to, .int (bI bk), .int r_11, .int r_12])), (lo, .inr (2, [.int (nI wd), .ref lp, .ref lc, .int ch.2])), (lp, .inl (cL, ((wd + 63) / 64), .inr (.inl pf))), (lc, .inl (cI, wd, .inl ch.1))] := hD
      have hP9 := hP.sub (ws' := [(so, .inr (4, [.ref lo, .int r_1, .int to, .int (bI bk), .int r_11, .int r_12])), (lo, .inr (2, [.int (nI wd), .ref lp, .ref lc, .int ch.2])), (lp, .inl (cL, ((wd + 63) / 64), .inr (.inl pf))), (lc, .inl (cI, wd, .inl ch.1))]) [0, 1, 2, 3] rfl
      have hD9 := hD.sub (ws' := [(so, .inr (4, [.ref lo, .int r_1, .int to, .int (bI bk), .int r_11, .int r_12])), (lo, .inr (2, [.int (nI wd), .ref lp, .ref lc, .int ch.2])), (lp, .inl (cL, ((wd + 63) / 64), .inr (.inl pf))), (lc, .inl (cI, wd, .inl ch.1))]) [0, 1, 2, 3] (by decide) rfl
      have hK9 := hK
      exact W.vret hx hb hr (fun t ht hW => ⟨⟨(r_1, to, bk, r_11, r_12), rfl, (by have h9 : f_Spot_move wd ch sp to bk = (r_1, to, bk, r_11, r_12) := (by subst er_1 ex_10 er_11 er_12; exact ((if_pos c_2).trans ((if_neg c_9).trans (rfl)))); exact h9.symm), ⟨by rw [ht]; exact hP9, va_K.moved hW.alike hK9, hD9⟩⟩, hS.F ht⟩) hS.2.2 d_Spot_move_90
    · refine lv_aload_n hx hb d_Spot_move_47 rfl (lv_at hl 1 rfl) ?_
      refine va_get (D := (dC, dI)) (ci := 4) (v := .int r_1) (C := R_Spot) (T := F_Spot) (N := 6) hx hb hw i_Spot hown hK hP 0 rfl rfl 1 (by decide) (hw _ m_119) (fun _ h9 => h9) rfl d_Spot_move_48 ?_
      refine lv_goto (tgt := 60) hx hb d_Spot_move_51 (by decide) ?_
      refine lv_istore (lv' := [(4, .int r_1), (3, .int 1), (0, .ref so), (1, .int to), (2, .int (bI bk))]) hx hb d_Spot_move_60 hl (by decide) rfl (fun ls hl => ?_)
      refine lv_aload_n hx hb d_Spot_move_62 rfl (lv_at hl 2 rfl) ?_
      refine lv_aload_n hx hb d_Spot_move_63 rfl (lv_at hl 2 rfl) ?_
      refine va_get (D := (dC, dI)) (ci := 4) (v := .ref lo) (C := R_Spot) (T := F_Spot) (N := 6) hx hb hw i_Spot hown hK hP 0 rfl rfl 0 (by decide) (hw _ m_118) (fun _ h9 => h9) rfl d_Spot_move_64 ?_
      refine lv_iload hx hb d_Spot_move_67 (lv_at hl 0 rfl) ?_
      have hPc := hP.sub (ws' := [(lo, .inr (2, [.int (nI wd), .ref lp, .ref lc, .int ch.2])), (lp, .inl (cL, ((wd + 63) / 64), .inr (.inl pf))), (lc, .inl (cI, wd, .inl ch.1))]) [1, 2, 3] rfl
      have hDc := hD.sub (ws' := [(lo, .inr (2, [.int (nI wd), .ref lp, .ref lc, .int ch.2])), (lp, .inl (cL, ((wd + 63) / 64), .inr (.inl pf))), (lc, .inl (cI, wd, .inl ch.1))]) [1, 2, 3] (by decide) rfl
      have hFc := va_free (wc := [(lo, .inr (2, [.int (nI wd), .ref lp, .ref lc, .int ch.2])), (lp, .inl (cL, ((wd + 63) / 64), .inr (.inl pf))), (lc, .inl (cI, wd, .inl ch.1))]) hD hS hA [1, 2, 3] rfl
      refine va_calli (va_runV (As := [.int r_1]) (rest := [.ref so]) ⟨hx, hb, hml, hown, hw⟩ (c_Line_placeOf l dC dI cI cL lo lp lc wd pf ch H.size r_1 (hwd)) (cwV 1 hw (gd_V m_389 m_386 m_387 m_39 m_388) rfl rfl rfl (by decide +kernel) ⟨Nat.le_of_ble_eq_true rfl, Nat.le_of_ble_eq_true rfl⟩) ⟨fun a U g mk q => by obtain ⟨q0, q1, qP, qK, qD⟩ := q; exact ⟨q0, q1, qP, va_K.moved (u := U) (U := U.calling g mk a) (Vm.Alike.refl U.vm) qK, qD⟩, va_recv hK hPc (ci := 2) (q0 := 0) rfl rfl, fun U hU hW => ⟨rfl, by rw [hU], by rw [hU]; exact hPc, va_K.moved hW.alike hK, hDc.weaken (fun _ _ _ _ => trivial)⟩⟩ rfl rfl hl.1 rfl (lv_room (Nat.le_of_ble_eq_true rfl)) d_Spot_move_69 ⟨Nat.le_of_ble_eq_true rfl, Nat.le_of_ble_eq_true rfl⟩) hS (fun q _ h => hFc q h) hFc (fun r_13 u_13 t H1 locs ht hvm hq13 hB hz1 hk1 hS => ?_)
      obtain ⟨hP1, hK1, hD1⟩ := hB
      rw [ht] at hP1
      obtain ⟨hP, hD⟩ := va_join (wr := [(so, .inr (4, [.ref lo, .int r_1, .int to, .int (bI bk), .int sp.2.2.2.1, .int sp.2.2.2.2]))]) (w1 := [(lo, .inr (2, [.int (nI wd), .ref lp, .ref lc, .int ch.2])), (lp, .inl (cL, ((wd + 63) / 64), .inr (.inl pf))), (lc, .inl (cI, wd, .inl ch.1))]) hP hD [1, 2, 3] [0] rfl rfl (by decide) (by decide) hk1 hFc hP1 hD1
      generalize H1 = H at hP hS ht ⊢
      have hP : va_P (dC, dI) classes [(so, .inr (4, [.ref lo, .int r_1, .int to, .int (bI bk), .int sp.2.2.2.1, .int sp.2.2.2.2])), (lo, .inr (2, [.int (nI wd), .ref lp, .ref lc, .int ch.2])), (lp, .inl (cL, ((wd + 63) / 64), .inr (.inl pf))), (lc, .inl (cI, wd, .inl ch.1))] H := hP
      have hD : va_D A [(so, .inr (4, [.ref lo, .int r_1, .int to, .int (bI bk), .int sp.2.2.2.1, .int sp.2.2.2.2])), (lo, .inr (2, [.int (nI wd), .ref lp, .ref lc, .int ch.2])), (lp, .inl (cL, ((wd + 63) / 64), .inr (.inl pf))), (lc, .inl (cI, wd, .inl ch.1))] := hD
      have er_13 : f_Line_placeOf wd ch r_1 = r_13 := hq13.symm
      refine va_put (D := (dC, dI)) (ci := 4) (v := .int r_13) (ty := .int) (C := R_Spot) (T := F_Spot) (N := 6) hx hb hw i_Spot t_Spot t_Spot_ok n_Spot hown hK hP hD hS 0 rfl rfl 4 (by decide) (hw _ m_126) (fun _ h9 => h9) rfl (by decide +kernel) rfl rfl (Nat.le_of_ble_eq_true rfl) d_Spot_move_72 (fun H locs hP hD hS => ?_)
      have hP : va_P (dC, dI) classes [(so, .inr (4, [.ref lo, .int r_1, .int to, .int (bI bk), .int r_13, .int sp.2.2.2.2])), (lo, .inr (2, [.int (nI wd), .ref lp, .ref lc, .int ch.2])), (lp, .inl (cL, ((wd + 63) / 64), .inr (.inl pf))), (lc, .inl (cI, wd, .inl ch.1))] H := hP
      have hD : va_D A [(so, .inr (4, [.ref lo, .int r_1, .int to, .int (bI bk), .int r_13, .int sp.2.2.2.2])), (lo, .inr (2, [.int (nI wd), .ref lp, .ref lc, .int ch.2])), (lp, .inl (cL, ((wd + 63) / 64), .inr (.inl pf))), (lc, .inl (cI, wd, .inl ch.1))] := hD
      refine lv_aload_n hx hb d_Spot_move_75 rfl (lv_at hl 2 rfl) ?_
      refine lv_aload_n hx hb d_Spot_move_76 rfl (lv_at hl 2 rfl) ?_
      refine va_get (D := (dC, dI)) (ci := 4) (v := .ref lo) (C := R_Spot) (T := F_Spot) (N := 6) hx hb hw i_Spot hown hK hP 0 rfl rfl 0 (by decide) (hw _ m_118) (fun _ h9 => h9) rfl d_Spot_move_77 ?_
      refine lv_iload hx hb d_Spot_move_80 (lv_at hl 0 rfl) ?_
      refine lv_iconst (v := 1) hx hb d_Spot_move_82 (by decide) ?_
      refine lv_iadd hx hb d_Spot_move_83 ?_
      have hPc := hP.sub (ws' := [(lo, .inr (2, [.int (nI wd), .ref lp, .ref lc, .int ch.2])), (lp, .inl (cL, ((wd + 63) / 64), .inr (.inl pf))), (lc, .inl (cI, wd, .inl ch.1))]) [1, 2, 3] rfl
      have hDc := hD.sub (ws' := [(lo, .inr (2, [.int (nI wd), .ref lp, .ref lc, .int ch.2])), (lp, .inl (cL, ((wd + 63) / 64), .inr (.inl pf))), (lc, .inl (cI, wd, .inl ch.1))]) [1, 2, 3] (by decide) rfl
      have hFc := va_free (wc := [(lo, .inr (2, [.int (nI wd), .ref lp, .ref lc, .int ch.2])), (lp, .inl (cL, ((wd + 63) / 64), .inr (.inl pf))), (lc, .inl (cI, wd, .inl ch.1))]) hD hS hA [1, 2, 3] rfl
      refine va_calli (va_runV (As := [.int (r_1 + 1)]) (rest := [.ref so]) ⟨hx, hb, hml, hown, hw⟩ (c_Line_placeOf l dC dI cI cL lo lp lc wd pf ch H.size (r_1 + 1) (hwd)) (cwV 1 hw (gd_V m_389 m_386 m_387 m_39 m_388) rfl rfl rfl (by decide +kernel) ⟨Nat.le_of_ble_eq_true rfl, Nat.le_of_ble_eq_true rfl⟩) ⟨fun a U g mk q => by obtain ⟨q0, q1, qP, qK, qD⟩ := q; exact ⟨q0, q1, qP, va_K.moved (u := U) (U := U.calling g mk a) (Vm.Alike.refl U.vm) qK, qD⟩, va_recv hK hPc (ci := 2) (q0 := 0) rfl rfl, fun U hU hW => ⟨rfl, by rw [hU], by rw [hU]; exact hPc, va_K.moved hW.alike hK, hDc.weaken (fun _ _ _ _ => trivial)⟩⟩ rfl rfl hl.1 rfl (lv_room (Nat.le_of_ble_eq_true rfl)) d_Spot_move_84 ⟨Nat.le_of_ble_eq_true rfl, Nat.le_of_ble_eq_true rfl⟩) hS (fun q _ h => hFc q h) hFc (fun r_14 u_14 t H1 locs ht hvm hq14 hB hz1 hk1 hS => ?_)
      obtain ⟨hP1, hK1, hD1⟩ := hB
      rw [ht] at hP1
      obtain ⟨hP, hD⟩ := va_join (wr := [(so, .inr (4, [.ref lo, .int r_1, .int to, .int (bI bk), .int r_13, .int sp.2.2.2.2]))]) (w1 := [(lo, .inr (2, [.int (nI wd), .ref lp, .ref lc, .int ch.2])), (lp, .inl (cL, ((wd + 63) / 64), .inr (.inl pf))), (lc, .inl (cI, wd, .inl ch.1))]) hP hD [1, 2, 3] [0] rfl rfl (by decide) (by decide) hk1 hFc hP1 hD1
      generalize H1 = H at hP hS ht ⊢
      have hP : va_P (dC, dI) classes [(so, .inr (4, [.ref lo, .int r_1, .int to, .int (bI bk), .int r_13, .int sp.2.2.2.2])), (lo, .inr (2, [.int (nI wd), .ref lp, .ref lc, .int ch.2])), (lp, .inl (cL, ((wd + 63) / 64), .inr (.inl pf))), (lc, .inl (cI, wd, .inl ch.1))] H := hP
      have hD : va_D A [(so, .inr (4, [.ref lo, .int r_1, .int to, .int (bI bk), .int r_13, .int sp.2.2.2.2])), (lo, .inr (2, [.int (nI wd), .ref lp, .ref lc, .int ch.2])), (lp, .inl (cL, ((wd + 63) / 64), .inr (.inl pf))), (lc, .inl (cI, wd, .inl ch.1))] := hD
      have er_14 : f_Line_placeOf wd ch (r_1 + 1) = r_14 := hq14.symm
      refine va_put (D := (dC, dI)) (ci := 4) (v := .int r_14) (ty := .int) (C := R_Spot) (T := F_Spot) (N := 6) hx hb hw i_Spot t_Spot t_Spot_ok n_Spot hown hK hP hD hS 0 rfl rfl 5 (by decide) (hw _ m_129) (fun _ h9 => h9) rfl (by decide +kernel) rfl rfl (Nat.le_of_ble_eq_true rfl) d_Spot_move_87 (fun H locs hP hD hS => ?_)
      have hP : va_P (dC, dI) classes [(so, .inr (4, [.ref lo, .int r_1, .int to, .int (bI bk), .int r_13, .int r_14])), (lo, .inr (2, [.int (nI wd), .ref lp, .ref lc, .int ch.2])), (lp, .inl (cL, ((wd + 63) / 64), .inr (.inl pf))), (lc, .inl (cI, wd, .inl ch.1))] H := hP
      have hD : va_D A [(so, .inr (4, [.ref lo, .int r_1, .int to, .int (bI bk), .int r_13, .int r_14])), (lo, .inr (2, [.int (nI wd), .ref lp, .ref lc, .int ch.2])), (lp, .inl (cL, ((wd + 63) / 64), .inr (.inl pf))), (lc, .inl (cI, wd, .inl ch.1))] := hD
      have hP9 := hP.sub (ws' := [(so, .inr (4, [.ref lo, .int r_1, .int to, .int (bI bk), .int r_13, .int r_14])), (lo, .inr (2, [.int (nI wd), .ref lp, .ref lc, .int ch.2])), (lp, .inl (cL, ((wd + 63) / 64), .inr (.inl pf))), (lc, .inl (cI, wd, .inl ch.1))]) [0, 1, 2, 3] rfl
      have hD9 := hD.sub (ws' := [(so, .inr (4, [.ref lo, .int r_1, .int to, .int (bI bk), .int r_13, .int r_14])), (lo, .inr (2, [.int (nI wd), .ref lp, .ref lc, .int ch.2])), (lp, .inl (cL, ((wd + 63) / 64), .inr (.inl pf))), (lc, .inl (cI, wd, .inl ch.1))]) [0, 1, 2, 3] (by decide) rfl
      have hK9 := hK
      exact W.vret hx hb hr (fun t ht hW => ⟨⟨(r_1, to, bk, r_13, r_14), rfl, (by have h9 : f_Spot_move wd ch sp to bk = (r_1, to, bk, r_13, r_14) := (by subst er_1 er_13 er_14; exact ((if_pos c_2).trans ((if_pos c_9).trans (rfl)))); exact h9.symm), ⟨by rw [ht]; exact hP9, va_K.moved hW.alike hK9, hD9⟩⟩, hS.F ht⟩) hS.2.2 d_Spot_move_90
def f_Spot_begin (wd : Nat) (ch : (Nat → Int32) × Int32) (sp : Int32 × Int32 × Bool × Int32 × Int32) : (Int32 × Int32 × Bool × Int32 × Int32) := let u_1 := f_Spot_move wd ch (0, sp.2) (-1) false; u_1
set_option maxHeartbeats 4000000 in
set_option maxRecDepth 100000 in
theorem c_Spot_begin (l : Launch) (dC : Nat → ClassId) (dI : Nat → Nat → Nat) (cI cL : ClassId) (so : Nat) (ab : Nat) (lo : Nat) (lp : Nat) (lc : Nat) (wd : Nat) (pf : Nat → Int64) (ch : (Nat → Int32) × Int32) (sz : Nat) (sp : Int32 × Int32 × Bool × Int32 × Int32)  (hwd : wd ≤ 10000) : Met l y_Spot_begin w_Spot_begin ({ frames := 3, cells := 0, slots := 0, locals := 68 }) (va_Pc [.ref so, .ref lo] (fun U => U.heap.size = sz ∧ va_P (dC, dI) classes [(so, .inr (4, [.ref ab, .int sp.1, .int sp.2.1, .int (bI sp.2.2.1), .int sp.2.2.2.1, .int sp.2.2.2.2])), (lo, .inr (2, [.int (nI wd), .ref lp, .ref lc, .int ch.2])), (lp, .inl (cL, ((wd + 63) / 64), .inr (.inl pf))), (lc, .inl (cI, wd, .inl ch.1))] U.heap ∧ va_K (dC, dI) classes [(cI, .int), (cL, .long)] U ∧ va_D (fun _ => True) [(so, .inr (4, [.ref ab, .int sp.1, .int sp.2.1, .int (bI sp.2.2.1), .int sp.2.2.2.1, .int sp.2.2.2.2])), (lo, .inr (2, [.int (nI wd), .ref lp, .ref lc, .int ch.2])), (lp, .inl (cL, ((wd + 63) / 64), .inr (.inl pf))), (lc, .inl (cI, wd, .inl ch.1))])) (va_Qv (fun (u : (Int32 × Int32 × Bool × Int32 × Int32)) => u = f_Spot_begin wd ch sp) (fun (u : (Int32 × Int32 × Bool × Int32 × Int32)) (t : State) => va_P (dC, dI) classes [(so, .inr (4, [.ref lo, .int u.1, .int u.2.1, .int (bI u.2.2.1), .int u.2.2.2.1, .int u.2.2.2.2])), (lo, .inr (2, [.int (nI wd), .ref lp, .ref lc, .int ch.2])), (lp, .inl (cL, ((wd + 63) / 64), .inr (.inl pf))), (lc, .inl (cI, wd, .inl ch.1))] t.heap ∧ va_K (dC, dI) classes [(cI, .int), (cL, .long)] t ∧ va_D (va_A [(so, .inr (4, [.ref ab, .int sp.1, .int sp.2.1, .int (bI sp.2.2.1), .int sp.2.2.2.1, .int sp.2.2.2.2])), (lo, .inr (2, [.int (nI wd), .ref lp, .ref lc, .int ch.2])), (lp, .inl (cL, ((wd + 63) / 64), .inr (.inl pf))), (lc, .inl (cI, wd, .inl ch.1))] sz) [(so, .inr (4, [.ref lo, .int u.1, .int u.2.1, .int (bI u.2.2.1), .int u.2.2.2.1, .int u.2.2.2.2])), (lo, .inr (2, [.int (nI wd), .ref lp, .ref lc, .int ch.2])), (lp, .inl (cL, ((wd + 63) / 64), .inr (.inl pf))), (lc, .inl (cI, wd, .inl ch.1))]) (va_A [(so, .inr (4, [.ref ab, .int sp.1, .int sp.2.1, .int (bI sp.2.2.1), .int sp.2.2.2.1, .int sp.2.2.2.2])), (lo, .inr (2, [.int (nI wd), .ref lp, .ref lc, .int ch.2])), (lp, .inl (cL, ((wd + 63) / 64), .inr (.inl pf))), (lc, .inl (cI, wd, .inl ch.1))] sz)) 0 0 (va_A [(so, .inr (4, [.ref ab, .int sp.1, .int sp.2.1, .int (bI sp.2.2.1), .int sp.2.2.2.1, .int sp.2.2.2.2])), (lo, .inr (2, [.int (nI wd), .ref lp, .ref lc, .int ch.2])), (lp, .inl (cL, ((wd + 63) / 64), .inr (.inl pf))), (lc, .inl (cI, wd, .inl ch.1))] sz) := by
  refine Met.ofW (cc := b_Spot_begin) (maxL := 2) (ret := none) (by decide) rfl ?_
  intro p e s m args below meth c s₁ B hml hv
  obtain ⟨rfl, hsz, hP, hK, hD0⟩ := hv
  have hx := B.exec
  have hb := B.bytes
  have hr := B.returns
  have hts := atoms_spec (ws := w_Spot_begin) B.pre
  have hw : ∀ w ∈ WA, w.before _ s = true := fun w h => hts w (List.mem_cons_of_mem _ h)
  have hown : s.vm.findClass R_Spot = some m.cls := findClass_of_methodNamed B.named
  have hlocks := B.notSynchronized
  subst hsz
  have hD := hD0.self (sz := s.heap.size)
  generalize hAe : va_A [(so, .inr (4, [.ref ab, .int sp.1, .int sp.2.1, .int (bI sp.2.2.1), .int sp.2.2.2.1, .int sp.2.2.2.2])), (lo, .inr (2, [.int (nI wd), .ref lp, .ref lc, .int ch.2])), (lp, .inl (cL, ((wd + 63) / 64), .inr (.inl pf))), (lc, .inl (cI, wd, .inl ch.1))] s.heap.size = A at hD ⊢
  have hA : ∀ q : Nat, s.heap.size ≤ q → A q := fun q h => by rw [← hAe]; exact Or.inr h
  have hS : va_S A s.heap s.heap [] := va_S.rf
  have hP : va_P (dC, dI) classes [(so, .inr (4, [.ref ab, .int sp.1, .int sp.2.1, .int (bI sp.2.2.1), .int sp.2.2.2.1, .int sp.2.2.2.2])), (lo, .inr (2, [.int (nI wd), .ref lp, .ref lc, .int ch.2])), (lp, .inl (cL, ((wd + 63) / 64), .inr (.inl pf))), (lc, .inl (cI, wd, .inl ch.1))] s.heap := hP
  have hl := lv_entry ([.ref so, .ref lo]) (n := 2) (Nat.le_of_ble_eq_true rfl)
  rw [lg_entry_eq]
  generalize (lg_sl ([.ref so, .ref lo]) ++ List.replicate (2 - (lg_sl ([.ref so, .ref lo])).length) Slot.unset).toArray = ls at hl ⊢
  have hl : lv_has ls 2 [(0, .ref so), (1, .ref lo)] := hl
  refine lv_aload_n hx hb d_Spot_begin_0 rfl (lv_at hl 0 rfl) ?_
  refine lv_aload_n hx hb d_Spot_begin_1 rfl (lv_at hl 1 rfl) ?_
  refine va_put (D := (dC, dI)) (ci := 4) (v := .ref lo) (ty := (.object "DotLines$Line")) (C := R_Spot) (T := F_Spot) (N := 6) hx hb hw i_Spot t_Spot t_Spot_ok n_Spot hown hK hP hD hS 0 rfl rfl 0 (by decide) (hw _ m_118) (fun _ h9 => h9) rfl (by decide +kernel) rfl rfl (Nat.le_of_ble_eq_true rfl) d_Spot_begin_2 (fun H locs hP hD hS => ?_)
  have hP : va_P (dC, dI) classes [(so, .inr (4, [.ref lo, .int sp.1, .int sp.2.1, .int (bI sp.2.2.1), .int sp.2.2.2.1, .int sp.2.2.2.2])), (lo, .inr (2, [.int (nI wd), .ref lp, .ref lc, .int ch.2])), (lp, .inl (cL, ((wd + 63) / 64), .inr (.inl pf))), (lc, .inl (cI, wd, .inl ch.1))] H := hP
  have hD : va_D A [(so, .inr (4, [.ref lo, .int sp.1, .int sp.2.1, .int (bI sp.2.2.1), .int sp.2.2.2.1, .int sp.2.2.2.2])), (lo, .inr (2, [.int (nI wd), .ref lp, .ref lc, .int ch.2])), (lp, .inl (cL, ((wd + 63) / 64), .inr (.inl pf))), (lc, .inl (cI, wd, .inl ch.1))] := hD
  refine lv_aload_n hx hb d_Spot_begin_5 rfl (lv_at hl 0 rfl) ?_
  refine lv_iconst (v := 0) hx hb d_Spot_begin_6 (by decide) ?_
  refine va_put (D := (dC, dI)) (ci := 4) (v := .int 0) (ty := .int) (C := R_Spot) (T := F_Spot) (N := 6) hx hb hw i_Spot t_Spot t_Spot_ok n_Spot hown hK hP hD hS 0 rfl rfl 1 (by decide) (hw _ m_119) (fun _ h9 => h9) rfl (by decide +kernel) rfl rfl (Nat.le_of_ble_eq_true rfl) d_Spot_begin_7 (fun H locs hP hD hS => ?_)
  have hP : va_P (dC, dI) classes [(so, .inr (4, [.ref lo, .int 0, .int sp.2.1, .int (bI sp.2.2.1), .int sp.2.2.2.1, .int sp.2.2.2.2])), (lo, .inr (2, [.int (nI wd), .ref lp, .ref lc, .int ch.2])), (lp, .inl (cL, ((wd + 63) / 64), .inr (.inl pf))), (lc, .inl (cI, wd, .inl ch.1))] H := hP
  have hD : va_D A [(so, .inr (4, [.ref lo, .int 0, .int sp.2.1, .int (bI sp.2.2.1), .int sp.2.2.2.1, .int sp.2.2.2.2])), (lo, .inr (2, [.int (nI wd), .ref lp, .ref lc, .int ch.2])), (lp, .inl (cL, ((wd + 63) / 64), .inr (.inl pf))), (lc, .inl (cI, wd, .inl ch.1))] := hD
  refine lv_aload_n hx hb d_Spot_begin_10 rfl (lv_at hl 0 rfl) ?_
  refine lv_iconst (v := (-1)) hx hb d_Spot_begin_11 (by decide) ?_
  refine lv_iconst (v := 0) hx hb d_Spot_begin_12 (by decide) ?_
  have hPc := hP.sub (ws' := [(so, .inr (4, [.ref lo, .int 0, .int sp.2.1, .int (bI sp.2.2.1), .int sp.2.2.2.1, .int sp.2.2.2.2])), (lo, .inr (2, [.int (nI wd), .ref lp, .ref lc, .int ch.2])), (lp, .inl (cL, ((wd + 63) / 64), .inr (.inl pf))), (lc, .inl (cI, wd, .inl ch.1))]) [0, 1, 2, 3] rfl
  have hDc := hD.sub (ws' := [(so, .inr (4, [.ref lo, .int 0, .int sp.2.1, .int (bI sp.2.2.1), .int sp.2.2.2.1, .int sp.2.2.2.2])), (lo, .inr (2, [.int (nI wd), .ref lp, .ref lc, .int ch.2])), (lp, .inl (cL, ((wd + 63) / 64), .inr (.inl pf))), (lc, .inl (cI, wd, .inl ch.1))]) [0, 1, 2, 3] (by decide) rfl
  have hFc := va_free (wc := [(so, .inr (4, [.ref lo, .int 0, .int sp.2.1, .int (bI sp.2.2.1), .int sp.2.2.2.1, .int sp.2.2.2.2])), (lo, .inr (2, [.int (nI wd), .ref lp, .ref lc, .int ch.2])), (lp, .inl (cL, ((wd + 63) / 64), .inr (.inl pf))), (lc, .inl (cI, wd, .inl ch.1))]) hD hS hA [0, 1, 2, 3] rfl
  refine va_callv (va_runV (As := [.int (-1), .int 0]) (rest := []) ⟨hx, hb, hml, hown, hw⟩ (c_Spot_move l dC dI cI cL so lo lp lc wd pf ch H.size (0, sp.2) (-1) false (hwd)) (cwV 2 hw (gd_V m_377 m_378 m_379 m_40 m_380) rfl rfl rfl (by decide +kernel) ⟨Nat.le_of_ble_eq_true rfl, Nat.le_of_ble_eq_true rfl⟩) ⟨fun a U g mk q => by obtain ⟨q0, q1, qP, qK, qD⟩ := q; exact ⟨q0, q1, qP, va_K.moved (u := U) (U := U.calling g mk a) (Vm.Alike.refl U.vm) qK, qD⟩, va_recv hK hPc (ci := 4) (q0 := 0) rfl rfl, fun U hU hW => ⟨rfl, by rw [hU], by rw [hU]; exact hPc, va_K.moved hW.alike hK, hDc.weaken (fun _ _ _ _ => trivial)⟩⟩ rfl rfl hl.1 rfl (lv_room (Nat.le_of_ble_eq_true rfl)) d_Spot_begin_13 ⟨Nat.le_of_ble_eq_true rfl, Nat.le_of_ble_eq_true rfl⟩) hS (fun q _ h => hFc q h) hFc (fun u_1 t H1 locs ht hvm hq1 hB hz1 hk1 hS => ?_)
  obtain ⟨hP1, hK1, hD1⟩ := hB
  rw [ht] at hP1
  obtain ⟨hP, hD⟩ := va_join (wr := []) (w1 := [(so, .inr (4, [.ref lo, .int u_1.1, .int u_1.2.1, .int (bI u_1.2.2.1), .int u_1.2.2.2.1, .int u_1.2.2.2.2])), (lo, .inr (2, [.int (nI wd), .ref lp, .ref lc, .int ch.2])), (lp, .inl (cL, ((wd + 63) / 64), .inr (.inl pf))), (lc, .inl (cI, wd, .inl ch.1))]) hP hD [0, 1, 2, 3] [] rfl rfl (by decide) (by decide) hk1 hFc hP1 hD1
  generalize H1 = H at hP hS ht ⊢
  have hP : va_P (dC, dI) classes [(so, .inr (4, [.ref lo, .int u_1.1, .int u_1.2.1, .int (bI u_1.2.2.1), .int u_1.2.2.2.1, .int u_1.2.2.2.2])), (lo, .inr (2, [.int (nI wd), .ref lp, .ref lc, .int ch.2])), (lp, .inl (cL, ((wd + 63) / 64), .inr (.inl pf))), (lc, .inl (cI, wd, .inl ch.1))] H := hP
  have hD : va_D A [(so, .inr (4, [.ref lo, .int u_1.1, .int u_1.2.1, .int (bI u_1.2.2.1), .int u_1.2.2.2.1, .int u_1.2.2.2.2])), (lo, .inr (2, [.int (nI wd), .ref lp, .ref lc, .int ch.2])), (lp, .inl (cL, ((wd + 63) / 64), .inr (.inl pf))), (lc, .inl (cI, wd, .inl ch.1))] := hD
  have eu_1 : f_Spot_move wd ch (0, sp.2) (-1) false = u_1 := hq1.symm
  have hP9 := hP.sub (ws' := [(so, .inr (4, [.ref lo, .int u_1.1, .int u_1.2.1, .int (bI u_1.2.2.1), .int u_1.2.2.2.1, .int u_1.2.2.2.2])), (lo, .inr (2, [.int (nI wd), .ref lp, .ref lc, .int ch.2])), (lp, .inl (cL, ((wd + 63) / 64), .inr (.inl pf))), (lc, .inl (cI, wd, .inl ch.1))]) [0, 1, 2, 3] rfl
  have hD9 := hD.sub (ws' := [(so, .inr (4, [.ref lo, .int u_1.1, .int u_1.2.1, .int (bI u_1.2.2.1), .int u_1.2.2.2.1, .int u_1.2.2.2.2])), (lo, .inr (2, [.int (nI wd), .ref lp, .ref lc, .int ch.2])), (lp, .inl (cL, ((wd + 63) / 64), .inr (.inl pf))), (lc, .inl (cI, wd, .inl ch.1))]) [0, 1, 2, 3] (by decide) rfl
  have hK9 := hK
  exact W.vret hx hb hr (fun t ht hW => ⟨⟨u_1, rfl, (by have h9 : f_Spot_begin wd ch sp = u_1 := (by subst eu_1; exact (rfl)); exact h9.symm), ⟨by rw [ht]; exact hP9, va_K.moved hW.alike hK9, hD9⟩⟩, hS.F ht⟩) hS.2.2 d_Spot_begin_16
