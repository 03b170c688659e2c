def l_Tree_init_115  (rec20 : ((Nat → Int32) × Int32) → Int32 → (Nat → Int32) × Int32) (rec78 : ((Nat → Int32) × Int32) → Int32 → (Nat → Int32) × Int32) : Nat → ((Nat → Int32) × Int32) → Int32 → (Nat → Int32) × Int32
  | 0, _, _ => default
  | n115 + 1, z, k => if 2560 < k then (z) else (let r_9 := f_Words_block k false; let u_10 := f_Tree_put z 3 r_9 k; let r_11 := f_Words_block k true; let u_12 := f_Tree_put u_10 4 r_11 k; let x_13 := k + 64; l_Tree_init_115 rec20 rec78 n115 u_12 x_13)
def l_Tree_init_78  (rec20 : ((Nat → Int32) × Int32) → Int32 → (Nat → Int32) × Int32) : Nat → ((Nat → Int32) × Int32) → Int32 → (Nat → Int32) × Int32
  | 0, _, _ => default
  | n78 + 1, z, k => if 64 ≤ k then (l_Tree_init_115 rec20 (l_Tree_init_78 rec20 n78) ((2561 - Int32.toInt (64 : Int32)).toNat + 1) z (64 : Int32)) else (let r_14 := f_Words_rest k false; let u_15 := f_Tree_put z 3 r_14 k; let r_16 := f_Words_rest k true; let u_17 := f_Tree_put u_15 4 r_16 k; let x_18 := k + 1; l_Tree_init_78 rec20 n78 u_17 x_18)
def l_Tree_init_20  : Nat → ((Nat → Int32) × Int32) → Int32 → (Nat → Int32) × Int32
  | 0, _, _ => default
  | n20 + 1, z, k => if 9 ≤ k then (let r_3 := f_Words_step 9; let u_4 := f_Tree_put z 1 r_3 9; let r_5 := f_Words_step 9; let u_6 := f_Tree_put u_4 2 r_5 9; l_Tree_init_78 (l_Tree_init_20 n20) (((64 : Int32).toInt - Int32.toInt (0 : Int32)).toNat + 1) u_6 (0 : Int32)) else (let r_19 := f_Words_step k; let u_20 := f_Tree_put z 0 r_19 k; let r_21 := f_Words_step k; let u_22 := f_Tree_put u_20 1 r_21 k; let x_23 := k + 1; l_Tree_init_20 n20 u_22 x_23)
def f_Tree_init  : (Nat → Int32) × Int32 := l_Tree_init_20 (((9 : Int32).toInt - Int32.toInt (0 : Int32)).toNat + 1) (fun _ => 0, 5) (0 : Int32)
set_option maxHeartbeats 4000000 in
set_option maxRecDepth 100000 in
theorem c_Tree_init (l : Launch) (dC : Nat → ClassId) (dI : Nat → Nat → Nat) (cI cL : ClassId) (o : Nat) (sz : Nat)    : Met l y_Tree_init w_Tree_init ({ frames := 3, cells := 1, slots := 512, locals := 71 }) (va_Pc [.ref o] (fun U => U.heap.size = sz ∧ va_P (dC, dI) classes [(o, .inr (5, [.null, .int 0]))] U.heap ∧ va_K (dC, dI) classes [(cI, .int), (cL, .long)] U ∧ va_D (fun _ => True) [(o, .inr (5, [.null, .int 0]))] ∧ tb (va_A [(o, .inr (5, [.null, .int 0]))] sz) U)) (va_Qv (fun (u : ((Nat → Int32) × Int32) × Nat) => u.1 = f_Tree_init) (fun (u : ((Nat → Int32) × Int32) × Nat) (t : State) => va_P (dC, dI) classes [(o, .inr (5, [.ref u.2, .int u.1.2])), (u.2, .inl (cI, 512, .inl u.1.1))] t.heap ∧ va_K (dC, dI) classes [(cI, .int), (cL, .long)] t ∧ va_D (va_A [(o, .inr (5, [.null, .int 0]))] sz) [(o, .inr (5, [.ref u.2, .int u.1.2])), (u.2, .inl (cI, 512, .inl u.1.1))]) (va_A [(o, .inr (5, [.null, .int 0]))] sz)) 1 512 (va_A [(o, .inr (5, [.null, .int 0]))] sz) := by
  refine Met.ofW (cc := b_Tree_init) (maxL := 2) (ret := none) (by decide) rfl ?_
  intro p e s m args below meth c s₁ B hml hv
  obtain ⟨rfl, hsz, hP, hK, hD0, hT⟩ := hv
  have hx := B.exec
  have hb := B.bytes
  have hr := B.returns
  have hts := atoms_spec (ws := w_Tree_init) B.pre
  have hw : ∀ w ∈ WA, w.before _ s = true := fun w h => hts w (List.mem_cons_of_mem _ h)
  have hown : s.vm.findClass R_Tree = some m.cls := findClass_of_methodNamed B.named
  have hlocks := B.notSynchronized
  have hin : meth.name = "<init>" := (name_of_methodNamed B.named B.method).1
  subst hsz
  have hD := hD0.self (sz := s.heap.size)
  generalize hAe : va_A [(o, .inr (5, [.null, .int 0]))] s.heap.size = A at hD hT ⊢
  have hA : ∀ q : Nat, s.heap.size ≤ q → A q := fun q h => by rw [← hAe]; exact Or.inr h
  have hS : va_S A s.heap s.heap [] := va_S.rf
  have hP : va_P (dC, dI) classes [(o, .inr (5, [.null, .int 0]))] s.heap := hP
  have hl := lv_entry ([.ref o]) (n := 2) (Nat.le_of_ble_eq_true rfl)
  rw [lg_entry_eq]
  generalize (lg_sl ([.ref o]) ++ List.replicate (2 - (lg_sl ([.ref o])).length) Slot.unset).toArray = ls at hl ⊢
  have hl : lv_has ls 2 [(0, .ref o)] := hl
  refine lv_aload_n hx hb d_Tree_init_0 rfl (lv_at hl 0 rfl) ?_
  refine W.objInit hx hb hown (hw _ m_199) (hw _ m_60) (hw _ m_61) rfl (by rw [hml]; exact hl.1) rfl d_Tree_init_1 (Nat.le_of_ble_eq_true rfl) (Nat.le_of_ble_eq_true rfl) ?_
  refine W.eq (g2 := F0 m 4 ls []) rfl ?_
  refine lv_aload_n hx hb d_Tree_init_4 rfl (lv_at hl 0 rfl) ?_
  refine lv_sipush (v := 512) hx hb d_Tree_init_5 (by decide) ?_
  refine va_newa (atype := .int) (ty := .int) (N' := 512) (a0 := (512, .inl (fun _ => 0))) hx hb (hw _ m_111) rfl hK hP hD hS hA (fun _ => rfl) (by decide) (by decide) (by rw [cb_I]; omega) (by first | exact Nat.le_of_ble_eq_true rfl | (show _ ≤ _; omega)) (by show _ + _ ≤ 512; omega) d_Tree_init_8 (fun q_1 cA H hK9 hP hD hS => ?_)
  have ec : cI = cA := ra_I hK9 0 2 rfl rfl
  subst ec
  refine W.widen (k := 1) (n := 512) (by omega) (by omega) ?_
  have hP : va_P (dC, dI) classes [(o, .inr (5, [.null, .int 0])), (q_1, .inl (cI, 512, .inl (fun _ => 0)))] H := hP
  have hD : va_D A [(o, .inr (5, [.null, .int 0])), (q_1, .inl (cI, 512, .inl (fun _ => 0)))] := hD
  refine va_putF (D := (dC, dI)) (ci := 5) (v := .ref q_1) (ty := (.array .int)) (C := R_Tree) (T := F_Tree) (N := 2) hx hb hw i_Tree t_Tree t_Tree_ok n_Tree hown hK hP hD hS 0 rfl rfl 0 (by decide) (hw _ m_247) (fun _ h9 => h9) rfl hin rfl (by decide +kernel) rfl rfl (Nat.le_of_ble_eq_true rfl) d_Tree_init_10 (fun H locs hP hD hS => ?_)
  have hP : va_P (dC, dI) classes [(o, .inr (5, [.ref q_1, .int 0])), (q_1, .inl (cI, 512, .inl (fun _ => 0)))] H := hP
  have hD : va_D A [(o, .inr (5, [.ref q_1, .int 0])), (q_1, .inl (cI, 512, .inl (fun _ => 0)))] := hD
  refine lv_aload_n hx hb d_Tree_init_13 rfl (lv_at hl 0 rfl) ?_
  refine lv_iconst (v := 5) hx hb d_Tree_init_14 (by decide) ?_
  refine va_put (D := (dC, dI)) (ci := 5) (v := .int 5) (ty := .int) (C := R_Tree) (T := F_Tree) (N := 2) hx hb hw i_Tree t_Tree t_Tree_ok n_Tree hown hK hP hD hS 0 rfl rfl 1 (by decide) (hw _ m_248) (fun _ h9 => h9) rfl (by decide +kernel) rfl rfl (Nat.le_of_ble_eq_true rfl) d_Tree_init_15 (fun H locs hP hD hS => ?_)
  have hP : va_P (dC, dI) classes [(o, .inr (5, [.ref q_1, .int 5])), (q_1, .inl (cI, 512, .inl (fun _ => 0)))] H := hP
  have hD : va_D A [(o, .inr (5, [.ref q_1, .int 5])), (q_1, .inl (cI, 512, .inl (fun _ => 0)))] := hD
  refine lv_iconst (v := 0) hx hb d_Tree_init_18 (by decide) ?_
  refine lv_istore_n (lv' := [(1, .int 0), (0, .ref o)]) hx hb d_Tree_init_19 rfl hl (by decide) rfl (fun ls hl => ?_)
  have hF9 : f_Tree_init = l_Tree_init_20 (((9 : Int32).toInt - Int32.toInt (0 : Int32)).toNat + 1) (fun _ => 0, 5) (0 : Int32) := (by exact (rfl))
  have hI9 : True := (by trivial)
  have hP9 := hP.sub (ws' := [(o, .inr (5, [.ref q_1, .int 5])), (q_1, .inl (cI, 512, .inl (fun _ => 0)))]) [0, 1] rfl
  have hD9 := hD.sub (ws' := [(o, .inr (5, [.ref q_1, .int 5])), (q_1, .inl (cI, 512, .inl (fun _ => 0)))]) [0, 1] (by decide) rfl
  have hl9 := lv_sub (l' := [(1, .int 0), (0, .ref o)]) hl [0, 1] rfl
  refine lp_n (pc := 20) (σ := ((Nat → Int32) × Int32) × Int32) (I := fun nQ vQ H locs ls => ((9 : Int32).toInt - Int32.toInt vQ.2).toNat < nQ ∧ f_Tree_init = l_Tree_init_20 nQ vQ.1 vQ.2 ∧ (True) ∧ va_P (dC, dI) classes [(o, .inr (5, [.ref q_1, .int vQ.1.2])), (q_1, .inl (cI, 512, .inl vQ.1.1))] H ∧ va_D A [(o, .inr (5, [.ref q_1, .int vQ.1.2])), (q_1, .inl (cI, 512, .inl vQ.1.1))] ∧ va_S A s.heap H locs ∧ lv_has ls 2 [(1, .int vQ.2), (0, .ref o)]) (fun vQ H locs ls h => absurd h.1 (Nat.not_lt_zero _)) ?_ (((9 : Int32).toInt - Int32.toInt (0 : Int32)).toNat + 1) ((fun _ => 0, 5), (0 : Int32)) _ _ _ ⟨Nat.lt_succ_self _, hF9, hI9, hP9, hD9, hS, hl9⟩
  intro n20 ih20 vQ H locs ls hI
  obtain ⟨z, k⟩ := vQ
  obtain ⟨hmu20, hF20, hinv, hP, hD, hS, hl⟩ := hI
  have hinv : True := hinv
  have hmu20 : ((9 : Int32).toInt - Int32.toInt k).toNat < n20 + 1 := hmu20
  have hF20 : f_Tree_init = l_Tree_init_20 (n20 + 1) z k := hF20
  have hP : va_P (dC, dI) classes [(o, .inr (5, [.ref q_1, .int z.2])), (q_1, .inl (cI, 512, .inl z.1))] H := hP
  have hD : va_D A [(o, .inr (5, [.ref q_1, .int z.2])), (q_1, .inl (cI, 512, .inl z.1))] := hD
  have hl : lv_has ls 2 [(1, .int k), (0, .ref o)] := hl
  refine lv_iload_n hx hb d_Tree_init_20 rfl (lv_at hl 0 rfl) ?_
  refine lv_bipush (v := 9) hx hb d_Tree_init_21 (by decide) ?_
  refine lv_icmp_ge (tgt := 52) hx hb d_Tree_init_23 (by decide) (fun c_2 => ?_) (fun c_2 => ?_)
  · refine lv_aload_n hx hb d_Tree_init_52 rfl (lv_at hl 1 rfl) ?_
    refine lv_iconst (v := 1) hx hb d_Tree_init_53 (by decide) ?_
    refine lv_bipush (v := 9) hx hb d_Tree_init_54 (by decide) ?_
    have hPc := hP.sub (ws' := []) [] rfl
    have hDc := hD.sub (ws' := []) [] (by decide) rfl
    have hFc := va_free (wc := []) hD hS hA [] rfl
    refine va_calli (va_runS (As := [.int 9]) (rest := [.int 1, .ref o]) ⟨hx, hb, hml, hown, hw⟩ (c_Words_step l dC dI cI cL H.size 9) (va_cwS 1 hw (gd_S m_200 m_201 m_43 m_202) rfl rfl rfl (by decide +kernel) ⟨Nat.le_of_ble_eq_true rfl, Nat.le_of_ble_eq_true rfl⟩) ⟨fun a U g mk q => by obtain ⟨q0, q1, qP, qK, qD, qT⟩ := q; exact ⟨q0, q1, qP, va_K.moved (u := U) (U := U.calling g mk a) (Vm.Alike.refl U.vm) qK, qD, tb_calling qT⟩, fun U hU hW => ⟨rfl, by rw [hU], by rw [hU]; exact hPc, va_K.moved hW.alike hK, hDc.weaken (fun _ _ _ _ => trivial), hT.use hS hFc hU hW.alike⟩⟩ rfl rfl hl.1 rfl (lv_room (Nat.le_of_ble_eq_true rfl)) d_Tree_init_56 ⟨Nat.le_of_ble_eq_true rfl, Nat.le_of_ble_eq_true rfl⟩) hS (fun q _ h => hFc q h) hFc (fun r_3 u_3 t H1 locs ht hvm hq3 hB hz1 hk1 hS => ?_)
    obtain ⟨hP1, hK1, hD1⟩ := hB
    rw [ht] at hP1
    obtain ⟨hP, hD⟩ := va_join (wr := [(o, .inr (5, [.ref q_1, .int z.2])), (q_1, .inl (cI, 512, .inl z.1))]) (w1 := []) hP hD [] [0, 1] rfl rfl (by decide) (by decide) hk1 hFc hP1 hD1
    generalize H1 = H at hP hS ht ⊢
    have hP : va_P (dC, dI) classes [(o, .inr (5, [.ref q_1, .int z.2])), (q_1, .inl (cI, 512, .inl z.1))] H := hP
    have hD : va_D A [(o, .inr (5, [.ref q_1, .int z.2])), (q_1, .inl (cI, 512, .inl z.1))] := hD
    have er_3 : f_Words_step 9 = r_3 := hq3.symm
    refine lv_bipush (v := 9) hx hb d_Tree_init_59 (by decide) ?_
    have hPc := hP.sub (ws' := [(o, .inr (5, [.ref q_1, .int z.2])), (q_1, .inl (cI, 512, .inl z.1))]) [0, 1] rfl
    have hDc := hD.sub (ws' := [(o, .inr (5, [.ref q_1, .int z.2])), (q_1, .inl (cI, 512, .inl z.1))]) [0, 1] (by decide) rfl
    have hFc := va_free (wc := [(o, .inr (5, [.ref q_1, .int z.2])), (q_1, .inl (cI, 512, .inl z.1))]) hD hS hA [0, 1] rfl
    refine va_callv (va_runV (As := [.int 1, .int r_3, .int 9]) (rest := []) ⟨hx, hb, hml, hown, hw⟩ (c_Tree_put l dC dI cI cL o q_1 H.size z 1 r_3 9) (cwV 3 hw (gd_V m_208 m_210 m_0 m_42 m_211) rfl rfl rfl (by decide +kernel) ⟨Nat.le_of_ble_eq_true rfl, Nat.le_of_ble_eq_true rfl⟩) ⟨fun a U g mk q => by obtain ⟨q0, q1, qP, qK, qD⟩ := q; exact ⟨q0, q1, qP, va_K.moved (u := U) (U := U.calling g mk a) (Vm.Alike.refl U.vm) qK, qD⟩, va_recv hK hPc (ci := 5) (q0 := 0) rfl rfl, fun U hU hW => ⟨rfl, by rw [hU], by rw [hU]; exact hPc, va_K.moved hW.alike hK, hDc.weaken (fun _ _ _ _ => trivial)⟩⟩ rfl rfl hl.1 rfl (lv_room (Nat.le_of_ble_eq_true rfl)) d_Tree_init_61 ⟨Nat.le_of_ble_eq_true rfl, Nat.le_of_ble_eq_true rfl⟩) hS (fun q _ h => hFc q h) hFc (fun u_4 t H1 locs ht hvm hq4 hB hz1 hk1 hS => ?_)
    obtain ⟨hP1, hK1, hD1⟩ := hB
    rw [ht] at hP1
    obtain ⟨hP, hD⟩ := va_join (wr := []) (w1 := [(o, .inr (5, [.ref q_1, .int u_4.2])), (q_1, .inl (cI, 512, .inl u_4.1))]) hP hD [0, 1] [] rfl rfl (by decide) (by decide) hk1 hFc hP1 hD1
    generalize H1 = H at hP hS ht ⊢
    have hP : va_P (dC, dI) classes [(o, .inr (5, [.ref q_1, .int u_4.2])), (q_1, .inl (cI, 512, .inl u_4.1))] H := hP
    have hD : va_D A [(o, .inr (5, [.ref q_1, .int u_4.2])), (q_1, .inl (cI, 512, .inl u_4.1))] := hD
    have eu_4 : f_Tree_put z 1 r_3 9 = u_4 := hq4.symm
    refine lv_aload_n hx hb d_Tree_init_64 rfl (lv_at hl 1 rfl) ?_
    refine lv_iconst (v := 2) hx hb d_Tree_init_65 (by decide) ?_
    refine lv_bipush (v := 9) hx hb d_Tree_init_66 (by decide) ?_
    have hPc := hP.sub (ws' := []) [] rfl
    have hDc := hD.sub (ws' := []) [] (by decide) rfl
    have hFc := va_free (wc := []) hD hS hA [] rfl
    refine va_calli (va_runS (As := [.int 9]) (rest := [.int 2, .ref o]) ⟨hx, hb, hml, hown, hw⟩ (c_Words_step l dC dI cI cL H.size 9) (va_cwS 1 hw (gd_S m_200 m_201 m_43 m_202) rfl rfl rfl (by decide +kernel) ⟨Nat.le_of_ble_eq_true rfl, Nat.le_of_ble_eq_true rfl⟩) ⟨fun a U g mk q => by obtain ⟨q0, q1, qP, qK, qD, qT⟩ := q; exact ⟨q0, q1, qP, va_K.moved (u := U) (U := U.calling g mk a) (Vm.Alike.refl U.vm) qK, qD, tb_calling qT⟩, fun U hU hW => ⟨rfl, by rw [hU], by rw [hU]; exact hPc, va_K.moved hW.alike hK, hDc.weaken (fun _ _ _ _ => trivial), hT.use hS hFc hU hW.alike⟩⟩ rfl rfl hl.1 rfl (lv_room (Nat.le_of_ble_eq_true rfl)) d_Tree_init_68 ⟨Nat.le_of_ble_eq_true rfl, Nat.le_of_ble_eq_true rfl⟩) hS (fun q _ h => hFc q h) hFc (fun r_5 u_5 t H1 locs ht hvm hq5 hB hz1 hk1 hS => ?_)
    obtain ⟨hP1, hK1, hD1⟩ := hB
    rw [ht] at hP1
    obtain ⟨hP, hD⟩ := va_join (wr := [(o, .inr (5, [.ref q_1, .int u_4.2])), (q_1, .inl (cI, 512, .inl u_4.1))]) (w1 := []) hP hD [] [0, 1] rfl rfl (by decide) (by decide) hk1 hFc hP1 hD1
    generalize H1 = H at hP hS ht ⊢
    have hP : va_P (dC, dI) classes [(o, .inr (5, [.ref q_1, .int u_4.2])), (q_1, .inl (cI, 512, .inl u_4.1))] H := hP
    have hD : va_D A [(o, .inr (5, [.ref q_1, .int u_4.2])), (q_1, .inl (cI, 512, .inl u_4.1))] := hD
    have er_5 : f_Words_step 9 = r_5 := hq5.symm
    refine lv_bipush (v := 9) hx hb d_Tree_init_71 (by decide) ?_
    have hPc := hP.sub (ws' := [(o, .inr (5, [.ref q_1, .int u_4.2])), (q_1, .inl (cI, 512, .inl u_4.1))]) [0, 1] rfl
    have hDc := hD.sub (ws' := [(o, .inr (5, [.ref q_1, .int u_4.2])), (q_1, .inl (cI, 512, .inl u_4.1))]) [0, 1] (by decide) rfl
    have hFc := va_free (wc := [(o, .inr (5, [.ref q_1, .int u_4.2])), (q_1, .inl (cI, 512, .inl u_4.1))]) hD hS hA [0, 1] rfl
    refine va_callv (va_runV (As := [.int 2, .int r_5, .int 9]) (rest := []) ⟨hx, hb, hml, hown, hw⟩ (c_Tree_put l dC dI cI cL o q_1 H.size u_4 2 r_5 9) (cwV 3 hw (gd_V m_208 m_210 m_0 m_42 m_211) rfl rfl rfl (by decide +kernel) ⟨Nat.le_of_ble_eq_true rfl, Nat.le_of_ble_eq_true rfl⟩) ⟨fun a U g mk q => by obtain ⟨q0, q1, qP, qK, qD⟩ := q; exact ⟨q0, q1, qP, va_K.moved (u := U) (U := U.calling g mk a) (Vm.Alike.refl U.vm) qK, qD⟩, va_recv hK hPc (ci := 5) (q0 := 0) rfl rfl, fun U hU hW => ⟨rfl, by rw [hU], by rw [hU]; exact hPc, va_K.moved hW.alike hK, hDc.weaken (fun _ _ _ _ => trivial)⟩⟩ rfl rfl hl.1 rfl (lv_room (Nat.le_of_ble_eq_true rfl)) d_Tree_init_73 ⟨Nat.le_of_ble_eq_true rfl, Nat.le_of_ble_eq_true rfl⟩) hS (fun q _ h => hFc q h) hFc (fun u_6 t H1 locs ht hvm hq6 hB hz1 hk1 hS => ?_)
    obtain ⟨hP1, hK1, hD1⟩ := hB
    rw [ht] at hP1
    obtain ⟨hP, hD⟩ := va_join (wr := []) (w1 := [(o, .inr (5, [.ref q_1, .int u_6.2])), (q_1, .inl (cI, 512, .inl u_6.1))]) hP hD [0, 1] [] rfl rfl (by decide) (by decide) hk1 hFc hP1 hD1
    generalize H1 = H at hP hS ht ⊢
    have hP : va_P (dC, dI) classes [(o, .inr (5, [.ref q_1, .int u_6.2])), (q_1, .inl (cI, 512, .inl u_6.1))] H := hP
    have hD : va_D A [(o, .inr (5, [.ref q_1, .int u_6.2])), (q_1, .inl (cI, 512, .inl u_6.1))] := hD
    have eu_6 : f_Tree_put u_4 2 r_5 9 = u_6 := hq6.symm
    refine lv_iconst (v := 0) hx hb d_Tree_init_76 (by decide) ?_
    refine lv_istore_n (lv' := [(1, .int 0), (0, .ref o)]) hx hb d_Tree_init_77 rfl hl (by decide) rfl (fun ls hl => ?_)
    have hF9 : f_Tree_init = l_Tree_init_78 (l_Tree_init_20 n20) (((64 : Int32).toInt - Int32.toInt (0 : Int32)).toNat + 1) u_6 (0 : Int32) := (by subst er_3 eu_4 er_5 eu_6; exact (hF20.trans ((if_pos c_2).trans (rfl))))
    have hI9 : True := (by subst er_3 eu_4 er_5 eu_6; trivial)
    have hP9 := hP.sub (ws' := [(o, .inr (5, [.ref q_1, .int u_6.2])), (q_1, .inl (cI, 512, .inl u_6.1))]) [0, 1] rfl
    have hD9 := hD.sub (ws' := [(o, .inr (5, [.ref q_1, .int u_6.2])), (q_1, .inl (cI, 512, .inl u_6.1))]) [0, 1] (by decide) rfl
    have hl9 := lv_sub (l' := [(1, .int 0), (0, .ref o)]) hl [0, 1] rfl
    refine lp_n (pc := 78) (σ := ((Nat → Int32) × Int32) × Int32) (I := fun nQ vQ H locs ls => ((64 : Int32).toInt - Int32.toInt vQ.2).toNat < nQ ∧ f_Tree_init = l_Tree_init_78 (l_Tree_init_20 n20) nQ vQ.1 vQ.2 ∧ (True) ∧ va_P (dC, dI) classes [(o, .inr (5, [.ref q_1, .int vQ.1.2])), (q_1, .inl (cI, 512, .inl vQ.1.1))] H ∧ va_D A [(o, .inr (5, [.ref q_1, .int vQ.1.2])), (q_1, .inl (cI, 512, .inl vQ.1.1))] ∧ va_S A s.heap H locs ∧ lv_has ls 2 [(1, .int vQ.2), (0, .ref o)]) (fun vQ H locs ls h => absurd h.1 (Nat.not_lt_zero _)) ?_ (((64 : Int32).toInt - Int32.toInt (0 : Int32)).toNat + 1) (u_6, (0 : Int32)) _ _ _ ⟨Nat.lt_succ_self _, hF9, hI9, hP9, hD9, hS, hl9⟩
    intro n78 ih78 vQ H locs ls hI
    obtain ⟨z, k⟩ := vQ
    obtain ⟨hmu78, hF78, hinv, hP, hD, hS, hl⟩ := hI
    have hinv : True := hinv
    have hmu78 : ((64 : Int32).toInt - Int32.toInt k).toNat < n78 + 1 := hmu78
    have hF78 : f_Tree_init = l_Tree_init_78 (l_Tree_init_20 n20) (n78 + 1) z k := hF78
    have hP : va_P (dC, dI) classes [(o, .inr (5, [.ref q_1, .int z.2])), (q_1, .inl (cI, 512, .inl z.1))] H := hP
    have hD : va_D A [(o, .inr (5, [.ref q_1, .int z.2])), (q_1, .inl (cI, 512, .inl z.1))] := hD
    have hl : lv_has ls 2 [(1, .int k), (0, .ref o)] := hl
    refine lv_iload_n hx hb d_Tree_init_78 rfl (lv_at hl 0 rfl) ?_
    refine lv_bipush (v := 64) hx hb d_Tree_init_79 (by decide) ?_
    refine lv_icmp_ge (tgt := 112) hx hb d_Tree_init_81 (by decide) (fun c_7 => ?_) (fun c_7 => ?_)
    · refine lv_bipush (v := 64) hx hb d_Tree_init_112 (by decide) ?_
      refine lv_istore_n (lv' := [(1, .int 64), (0, .ref o)]) hx hb d_Tree_init_114 rfl hl (by decide) rfl (fun ls hl => ?_)
      have hF9 : f_Tree_init = l_Tree_init_115 (l_Tree_init_20 n20) (l_Tree_init_78 (l_Tree_init_20 n20) n78) ((2561 - Int32.toInt (64 : Int32)).toNat + 1) z (64 : Int32) := (by exact (hF78.trans ((if_pos c_7).trans (rfl))))
      have hI9 : True := (by trivial)
      have hP9 := hP.sub (ws' := [(o, .inr (5, [.ref q_1, .int z.2])), (q_1, .inl (cI, 512, .inl z.1))]) [0, 1] rfl
      have hD9 := hD.sub (ws' := [(o, .inr (5, [.ref q_1, .int z.2])), (q_1, .inl (cI, 512, .inl z.1))]) [0, 1] (by decide) rfl
      have hl9 := lv_sub (l' := [(1, .int 64), (0, .ref o)]) hl [0, 1] rfl
      refine lp_n (pc := 115) (σ := ((Nat → Int32) × Int32) × Int32) (I := fun nQ vQ H locs ls => (2561 - Int32.toInt vQ.2).toNat < nQ ∧ f_Tree_init = l_Tree_init_115 (l_Tree_init_20 n20) (l_Tree_init_78 (l_Tree_init_20 n20) n78) nQ vQ.1 vQ.2 ∧ (True) ∧ va_P (dC, dI) classes [(o, .inr (5, [.ref q_1, .int vQ.1.2])), (q_1, .inl (cI, 512, .inl vQ.1.1))] H ∧ va_D A [(o, .inr (5, [.ref q_1, .int vQ.1.2])), (q_1, .inl (cI, 512, .inl vQ.1.1))] ∧ va_S A s.heap H locs ∧ lv_has ls 2 [(1, .int vQ.2), (0, .ref o)]) (fun vQ H locs ls h => absurd h.1 (Nat.not_lt_zero _)) ?_ ((2561 - Int32.toInt (64 : Int32)).toNat + 1) (z, (64 : Int32)) _ _ _ ⟨Nat.lt_succ_self _, hF9, hI9, hP9, hD9, hS, hl9⟩
      intro n115 ih115 vQ H locs ls hI
      obtain ⟨z, k⟩ := vQ
      obtain ⟨hmu115, hF115, hinv, hP, hD, hS, hl⟩ := hI
      have hinv : True := hinv
      have hmu115 : (2561 - Int32.toInt k).toNat < n115 + 1 := hmu115
      have hF115 : f_Tree_init = l_Tree_init_115 (l_Tree_init_20 n20) (l_Tree_init_78 (l_Tree_init_20 n20) n78) (n115 + 1) z k := hF115
      have hP : va_P (dC, dI) classes [(o, .inr (5, [.ref q_1, .int z.2])), (q_1, .inl (cI, 512, .inl z.1))] H := hP
      have hD : va_D A [(o, .inr (5, [.ref q_1, .int z.2])), (q_1, .inl (cI, 512, .inl z.1))] := hD
      have hl : lv_has ls 2 [(1, .int k), (0, .ref o)] := hl
      refine lv_iload_n hx hb d_Tree_init_115 rfl (lv_at hl 0 rfl) ?_
      refine lv_sipush (v := 2560) hx hb d_Tree_init_116 (by decide) ?_
      refine lv_icmp_gt (tgt := 150) hx hb d_Tree_init_119 (by decide) (fun c_8 => ?_) (fun c_8 => ?_)
      · have hP9 := hP.sub (ws' := [(o, .inr (5, [.ref q_1, .int z.2])), (q_1, .inl (cI, 512, .inl z.1))]) [0, 1] rfl
        have hD9 := hD.sub (ws' := [(o, .inr (5, [.ref q_1, .int z.2])), (q_1, .inl (cI, 512, .inl z.1))]) [0, 1] (by decide) rfl
        have hK9 := hK
        exact W.vret hx hb hr (fun t ht hW => ⟨⟨(z, q_1), rfl, (by have h9 : f_Tree_init = z := (by exact (hF115.trans ((if_pos c_8).trans (rfl)))); exact h9.symm), ⟨by rw [ht]; exact hP9, va_K.moved hW.alike hK9, hD9⟩⟩, hS.F ht⟩) hS.2.2 d_Tree_init_150
      · refine lv_aload_n hx hb d_Tree_init_122 rfl (lv_at hl 1 rfl) ?_
        refine lv_iconst (v := 3) hx hb d_Tree_init_123 (by decide) ?_
        refine lv_iload_n hx hb d_Tree_init_124 rfl (lv_at hl 0 rfl) ?_
        refine lv_iconst (v := 0) hx hb d_Tree_init_125 (by decide) ?_
        have hPc := hP.sub (ws' := []) [] rfl
        have hDc := hD.sub (ws' := []) [] (by decide) rfl
        have hFc := va_free (wc := []) hD hS hA [] rfl
        refine va_calli (va_runS (As := [.int k, .int 0]) (rest := [.int 3, .ref o]) ⟨hx, hb, hml, hown, hw⟩ (c_Words_block l dC dI cI cL H.size k false) (va_cwS 2 hw (gd_S m_238 m_239 m_43 m_240) rfl rfl rfl (by decide +kernel) ⟨Nat.le_of_ble_eq_true rfl, Nat.le_of_ble_eq_true rfl⟩) ⟨fun a U g mk q => by obtain ⟨q0, q1, qP, qK, qD, qT⟩ := q; exact ⟨q0, q1, qP, va_K.moved (u := U) (U := U.calling g mk a) (Vm.Alike.refl U.vm) qK, qD, tb_calling qT⟩, fun U hU hW => ⟨rfl, by rw [hU], by rw [hU]; exact hPc, va_K.moved hW.alike hK, hDc.weaken (fun _ _ _ _ => trivial), hT.use hS hFc hU hW.alike⟩⟩ rfl rfl hl.1 rfl (lv_room (Nat.le_of_ble_eq_true rfl)) d_Tree_init_126 ⟨Nat.le_of_ble_eq_true rfl, Nat.le_of_ble_eq_true rfl⟩) hS (fun q _ h => hFc q h) hFc (fun r_9 u_9 t H1 locs ht hvm hq9 hB hz1 hk1 hS => ?_)
        obtain ⟨hP1, hK1, hD1⟩ := hB
        rw [ht] at hP1
        obtain ⟨hP, hD⟩ := va_join (wr := [(o, .inr (5, [.ref q_1, .int z.2])), (q_1, .inl (cI, 512, .inl z.1))]) (w1 := []) hP hD [] [0, 1] rfl rfl (by decide) (by decide) hk1 hFc hP1 hD1
        generalize H1 = H at hP hS ht ⊢
        have hP : va_P (dC, dI) classes [(o, .inr (5, [.ref q_1, .int z.2])), (q_1, .inl (cI, 512, .inl z.1))] H := hP
        have hD : va_D A [(o, .inr (5, [.ref q_1, .int z.2])), (q_1, .inl (cI, 512, .inl z.1))] := hD
        have er_9 : f_Words_block k false = r_9 := hq9.symm
        refine lv_iload_n hx hb d_Tree_init_129 rfl (lv_at hl 0 rfl) ?_
        have hPc := hP.sub (ws' := [(o, .inr (5, [.ref q_1, .int z.2])), (q_1, .inl (cI, 512, .inl z.1))]) [0, 1] rfl
        have hDc := hD.sub (ws' := [(o, .inr (5, [.ref q_1, .int z.2])), (q_1, .inl (cI, 512, .inl z.1))]) [0, 1] (by decide) rfl
        have hFc := va_free (wc := [(o, .inr (5, [.ref q_1, .int z.2])), (q_1, .inl (cI, 512, .inl z.1))]) hD hS hA [0, 1] rfl
        refine va_callv (va_runV (As := [.int 3, .int r_9, .int k]) (rest := []) ⟨hx, hb, hml, hown, hw⟩ (c_Tree_put l dC dI cI cL o q_1 H.size z 3 r_9 k) (cwV 3 hw (gd_V m_208 m_210 m_0 m_42 m_211) rfl rfl rfl (by decide +kernel) ⟨Nat.le_of_ble_eq_true rfl, Nat.le_of_ble_eq_true rfl⟩) ⟨fun a U g mk q => by obtain ⟨q0, q1, qP, qK, qD⟩ := q; exact ⟨q0, q1, qP, va_K.moved (u := U) (U := U.calling g mk a) (Vm.Alike.refl U.vm) qK, qD⟩, va_recv hK hPc (ci := 5) (q0 := 0) rfl rfl, fun U hU hW => ⟨rfl, by rw [hU], by rw [hU]; exact hPc, va_K.moved hW.alike hK, hDc.weaken (fun _ _ _ _ => trivial)⟩⟩ rfl rfl hl.1 rfl (lv_room (Nat.le_of_ble_eq_true rfl)) d_Tree_init_130 ⟨Nat.le_of_ble_eq_true rfl, Nat.le_of_ble_eq_true rfl⟩) hS (fun q _ h => hFc q h) hFc (fun u_10 t H1 locs ht hvm hq10 hB hz1 hk1 hS => ?_)
        obtain ⟨hP1, hK1, hD1⟩ := hB
        rw [ht] at hP1
        obtain ⟨hP, hD⟩ := va_join (wr := []) (w1 := [(o, .inr (5, [.ref q_1, .int u_10.2])), (q_1, .inl (cI, 512, .inl u_10.1))]) hP hD [0, 1] [] rfl rfl (by decide) (by decide) hk1 hFc hP1 hD1
        generalize H1 = H at hP hS ht ⊢
        have hP : va_P (dC, dI) classes [(o, .inr (5, [.ref q_1, .int u_10.2])), (q_1, .inl (cI, 512, .inl u_10.1))] H := hP
        have hD : va_D A [(o, .inr (5, [.ref q_1, .int u_10.2])), (q_1, .inl (cI, 512, .inl u_10.1))] := hD
        have eu_10 : f_Tree_put z 3 r_9 k = u_10 := hq10.symm
        refine lv_aload_n hx hb d_Tree_init_133 rfl (lv_at hl 1 rfl) ?_
        refine lv_iconst (v := 4) hx hb d_Tree_init_134 (by decide) ?_
        refine lv_iload_n hx hb d_Tree_init_135 rfl (lv_at hl 0 rfl) ?_
        refine lv_iconst (v := 1) hx hb d_Tree_init_136 (by decide) ?_
        have hPc := hP.sub (ws' := []) [] rfl
        have hDc := hD.sub (ws' := []) [] (by decide) rfl
        have hFc := va_free (wc := []) hD hS hA [] rfl
        refine va_calli (va_runS (As := [.int k, .int 1]) (rest := [.int 4, .ref o]) ⟨hx, hb, hml, hown, hw⟩ (c_Words_block l dC dI cI cL H.size k true) (va_cwS 2 hw (gd_S m_238 m_239 m_43 m_240) rfl rfl rfl (by decide +kernel) ⟨Nat.le_of_ble_eq_true rfl, Nat.le_of_ble_eq_true rfl⟩) ⟨fun a U g mk q => by obtain ⟨q0, q1, qP, qK, qD, qT⟩ := q; exact ⟨q0, q1, qP, va_K.moved (u := U) (U := U.calling g mk a) (Vm.Alike.refl U.vm) qK, qD, tb_calling qT⟩, fun U hU hW => ⟨rfl, by rw [hU], by rw [hU]; exact hPc, va_K.moved hW.alike hK, hDc.weaken (fun _ _ _ _ => trivial), hT.use hS hFc hU hW.alike⟩⟩ rfl rfl hl.1 rfl (lv_room (Nat.le_of_ble_eq_true rfl)) d_Tree_init_137 ⟨Nat.le_of_ble_eq_true rfl, Nat.le_of_ble_eq_true rfl⟩) hS (fun q _ h => hFc q h) hFc (fun r_11 u_11 t H1 locs ht hvm hq11 hB hz1 hk1 hS => ?_)
        obtain ⟨hP1, hK1, hD1⟩ := hB
        rw [ht] at hP1
        obtain ⟨hP, hD⟩ := va_join (wr := [(o, .inr (5, [.ref q_1, .int u_10.2])), (q_1, .inl (cI, 512, .inl u_10.1))]) (w1 := []) hP hD [] [0, 1] rfl rfl (by decide) (by decide) hk1 hFc hP1 hD1
        generalize H1 = H at hP hS ht ⊢
        have hP : va_P (dC, dI) classes [(o, .inr (5, [.ref q_1, .int u_10.2])), (q_1, .inl (cI, 512, .inl u_10.1))] H := hP
        have hD : va_D A [(o, .inr (5, [.ref q_1, .int u_10.2])), (q_1, .inl (cI, 512, .inl u_10.1))] := hD
        have er_11 : f_Words_block k true = r_11 := hq11.symm
        refine lv_iload_n hx hb d_Tree_init_140 rfl (lv_at hl 0 rfl) ?_
        have hPc := hP.sub (ws' := [(o, .inr (5, [.ref q_1, .int u_10.2])), (q_1, .inl (cI, 512, .inl u_10.1))]) [0, 1] rfl
        have hDc := hD.sub (ws' := [(o, .inr (5, [.ref q_1, .int u_10.2])), (q_1, .inl (cI, 512, .inl u_10.1))]) [0, 1] (by decide) rfl
        have hFc := va_free (wc := [(o, .inr (5, [.ref q_1, .int u_10.2])), (q_1, .inl (cI, 512, .inl u_10.1))]) hD hS hA [0, 1] rfl
        refine va_callv (va_runV (As := [.int 4, .int r_11, .int k]) (rest := []) ⟨hx, hb, hml, hown, hw⟩ (c_Tree_put l dC dI cI cL o q_1 H.size u_10 4 r_11 k) (cwV 3 hw (gd_V m_208 m_210 m_0 m_42 m_211) rfl rfl rfl (by decide +kernel) ⟨Nat.le_of_ble_eq_true rfl, Nat.le_of_ble_eq_true rfl⟩) ⟨fun a U g mk q => by obtain ⟨q0, q1, qP, qK, qD⟩ := q; exact ⟨q0, q1, qP, va_K.moved (u := U) (U := U.calling g mk a) (Vm.Alike.refl U.vm) qK, qD⟩, va_recv hK hPc (ci := 5) (q0 := 0) rfl rfl, fun U hU hW => ⟨rfl, by rw [hU], by rw [hU]; exact hPc, va_K.moved hW.alike hK, hDc.weaken (fun _ _ _ _ => trivial)⟩⟩ rfl rfl hl.1 rfl (lv_room (Nat.le_of_ble_eq_true rfl)) d_Tree_init_141 ⟨Nat.le_of_ble_eq_true rfl, Nat.le_of_ble_eq_true rfl⟩) hS (fun q _ h => hFc q h) hFc (fun u_12 t H1 locs ht hvm hq12 hB hz1 hk1 hS => ?_)
        obtain ⟨hP1, hK1, hD1⟩ := hB
        rw [ht] at hP1
        obtain ⟨hP, hD⟩ := va_join (wr := []) (w1 := [(o, .inr (5, [.ref q_1, .int u_12.2])), (q_1, .inl (cI, 512, .inl u_12.1))]) hP hD [0, 1] [] rfl rfl (by decide) (by decide) hk1 hFc hP1 hD1
        generalize H1 = H at hP hS ht ⊢
        have hP : va_P (dC, dI) classes [(o, .inr (5, [.ref q_1, .int u_12.2])), (q_1, .inl (cI, 512, .inl u_12.1))] H := hP
        have hD : va_D A [(o, .inr (5, [.ref q_1, .int u_12.2])), (q_1, .inl (cI, 512, .inl u_12.1))] := hD
        have eu_12 : f_Tree_put u_10 4 r_11 k = u_12 := hq12.symm
        obtain ⟨x_13, ex_13⟩ : ∃ y : Int32, y = k + 64 := ⟨_, rfl⟩
        refine lv_iinc (v := x_13) (lv' := [(1, .int x_13), (0, .ref o)]) hx hb d_Tree_init_144 hl (k := 0) rfl (by rw [ex_13]; rfl) (by decide) rfl (fun ls hl => ?_)
        replace ex_13 := ex_13.symm
        refine lv_goto (tgt := 115) hx hb d_Tree_init_147 (by decide) ?_
        have hF9 : f_Tree_init = l_Tree_init_115 (l_Tree_init_20 n20) (l_Tree_init_78 (l_Tree_init_20 n20) n78) n115 u_12 x_13 := (by subst er_9 eu_10 er_11 eu_12 ex_13; exact (hF115.trans ((if_neg c_8).trans (rfl))))
        have hI9 : True := (by subst er_9 eu_10 er_11 eu_12 ex_13; trivial)
        have hP9 := hP.sub (ws' := [(o, .inr (5, [.ref q_1, .int u_12.2])), (q_1, .inl (cI, 512, .inl u_12.1))]) [0, 1] rfl
        have hD9 := hD.sub (ws' := [(o, .inr (5, [.ref q_1, .int u_12.2])), (q_1, .inl (cI, 512, .inl u_12.1))]) [0, 1] (by decide) rfl
        have hl9 := lv_sub (l' := [(1, .int x_13), (0, .ref o)]) hl [0, 1] rfl
        have hm9 : (2561 - Int32.toInt x_13).toNat < (2561 - Int32.toInt k).toNat := (by subst er_9 eu_10 er_11 eu_12 ex_13; have h9 := c_8; rw [ti_lt, show (2560 : Int32).toInt = 2560 from rfl] at h9; have b9 := ti_b k; rw [ti_add (by rw [show (64 : Int32).toInt = 64 from rfl]; omega) (by rw [show (64 : Int32).toInt = 64 from rfl]; omega), show (64 : Int32).toInt = 64 from rfl]; omega)
        exact ih115 (u_12, x_13) _ _ _ ⟨Nat.lt_of_lt_of_le hm9 (Nat.le_of_lt_succ hmu115), hF9, hI9, hP9, hD9, hS, hl9⟩
    · refine lv_aload_n hx hb d_Tree_init_84 rfl (lv_at hl 1 rfl) ?_
      refine lv_iconst (v := 3) hx hb d_Tree_init_85 (by decide) ?_
      refine lv_iload_n hx hb d_Tree_init_86 rfl (lv_at hl 0 rfl) ?_
      refine lv_iconst (v := 0) hx hb d_Tree_init_87 (by decide) ?_
      have hPc := hP.sub (ws' := []) [] rfl
      have hDc := hD.sub (ws' := []) [] (by decide) rfl
      have hFc := va_free (wc := []) hD hS hA [] rfl
      refine va_calli (va_runS (As := [.int k, .int 0]) (rest := [.int 3, .ref o]) ⟨hx, hb, hml, hown, hw⟩ (c_Words_rest l dC dI cI cL H.size k false) (va_cwS 2 hw (gd_S m_231 m_232 m_43 m_233) rfl rfl rfl (by decide +kernel) ⟨Nat.le_of_ble_eq_true rfl, Nat.le_of_ble_eq_true rfl⟩) ⟨fun a U g mk q => by obtain ⟨q0, q1, qP, qK, qD, qT⟩ := q; exact ⟨q0, q1, qP, va_K.moved (u := U) (U := U.calling g mk a) (Vm.Alike.refl U.vm) qK, qD, tb_calling qT⟩, fun U hU hW => ⟨rfl, by rw [hU], by rw [hU]; exact hPc, va_K.moved hW.alike hK, hDc.weaken (fun _ _ _ _ => trivial), hT.use hS hFc hU hW.alike⟩⟩ rfl rfl hl.1 rfl (lv_room (Nat.le_of_ble_eq_true rfl)) d_Tree_init_88 ⟨Nat.le_of_ble_eq_true rfl, Nat.le_of_ble_eq_true rfl⟩) hS (fun q _ h => hFc q h) hFc (fun r_14 u_14 t H1 locs ht hvm hq14 hB hz1 hk1 hS => ?_)
      obtain ⟨hP1, hK1, hD1⟩ := hB
      rw [ht] at hP1
      obtain ⟨hP, hD⟩ := va_join (wr := [(o, .inr (5, [.ref q_1, .int z.2])), (q_1, .inl (cI, 512, .inl z.1))]) (w1 := []) hP hD [] [0, 1] rfl rfl (by decide) (by decide) hk1 hFc hP1 hD1
      generalize H1 = H at hP hS ht ⊢
      have hP : va_P (dC, dI) classes [(o, .inr (5, [.ref q_1, .int z.2])), (q_1, .inl (cI, 512, .inl z.1))] H := hP
      have hD : va_D A [(o, .inr (5, [.ref q_1, .int z.2])), (q_1, .inl (cI, 512, .inl z.1))] := hD
      have er_14 : f_Words_rest k false = r_14 := hq14.symm
      refine lv_iload_n hx hb d_Tree_init_91 rfl (lv_at hl 0 rfl) ?_
      have hPc := hP.sub (ws' := [(o, .inr (5, [.ref q_1, .int z.2])), (q_1, .inl (cI, 512, .inl z.1))]) [0, 1] rfl
      have hDc := hD.sub (ws' := [(o, .inr (5, [.ref q_1, .int z.2])), (q_1, .inl (cI, 512, .inl z.1))]) [0, 1] (by decide) rfl
      have hFc := va_free (wc := [(o, .inr (5, [.ref q_1, .int z.2])), (q_1, .inl (cI, 512, .inl z.1))]) hD hS hA [0, 1] rfl
      refine va_callv (va_runV (As := [.int 3, .int r_14, .int k]) (rest := []) ⟨hx, hb, hml, hown, hw⟩ (c_Tree_put l dC dI cI cL o q_1 H.size z 3 r_14 k) (cwV 3 hw (gd_V m_208 m_210 m_0 m_42 m_211) rfl rfl rfl (by decide +kernel) ⟨Nat.le_of_ble_eq_true rfl, Nat.le_of_ble_eq_true rfl⟩) ⟨fun a U g mk q => by obtain ⟨q0, q1, qP, qK, qD⟩ := q; exact ⟨q0, q1, qP, va_K.moved (u := U) (U := U.calling g mk a) (Vm.Alike.refl U.vm) qK, qD⟩, va_recv hK hPc (ci := 5) (q0 := 0) rfl rfl, fun U hU hW => ⟨rfl, by rw [hU], by rw [hU]; exact hPc, va_K.moved hW.alike hK, hDc.weaken (fun _ _ _ _ => trivial)⟩⟩ rfl rfl hl.1 rfl (lv_room (Nat.le_of_ble_eq_true rfl)) d_Tree_init_92 ⟨Nat.le_of_ble_eq_true rfl, Nat.le_of_ble_eq_true rfl⟩) hS (fun q _ h => hFc q h) hFc (fun u_15 t H1 locs ht hvm hq15 hB hz1 hk1 hS => ?_)
      obtain ⟨hP1, hK1, hD1⟩ := hB
      rw [ht] at hP1
      obtain ⟨hP, hD⟩ := va_join (wr := []) (w1 := [(o, .inr (5, [.ref q_1, .int u_15.2])), (q_1, .inl (cI, 512, .inl u_15.1))]) hP hD [0, 1] [] rfl rfl (by decide) (by decide) hk1 hFc hP1 hD1
      generalize H1 = H at hP hS ht ⊢
      have hP : va_P (dC, dI) classes [(o, .inr (5, [.ref q_1, .int u_15.2])), (q_1, .inl (cI, 512, .inl u_15.1))] H := hP
      have hD : va_D A [(o, .inr (5, [.ref q_1, .int u_15.2])), (q_1, .inl (cI, 512, .inl u_15.1))] := hD
      have eu_15 : f_Tree_put z 3 r_14 k = u_15 := hq15.symm
      refine lv_aload_n hx hb d_Tree_init_95 rfl (lv_at hl 1 rfl) ?_
      refine lv_iconst (v := 4) hx hb d_Tree_init_96 (by decide) ?_
      refine lv_iload_n hx hb d_Tree_init_97 rfl (lv_at hl 0 rfl) ?_
      refine lv_iconst (v := 1) hx hb d_Tree_init_98 (by decide) ?_
      have hPc := hP.sub (ws' := []) [] rfl
      have hDc := hD.sub (ws' := []) [] (by decide) rfl
      have hFc := va_free (wc := []) hD hS hA [] rfl
      refine va_calli (va_runS (As := [.int k, .int 1]) (rest := [.int 4, .ref o]) ⟨hx, hb, hml, hown, hw⟩ (c_Words_rest l dC dI cI cL H.size k true) (va_cwS 2 hw (gd_S m_231 m_232 m_43 m_233) rfl rfl rfl (by decide +kernel) ⟨Nat.le_of_ble_eq_true rfl, Nat.le_of_ble_eq_true rfl⟩) ⟨fun a U g mk q => by obtain ⟨q0, q1, qP, qK, qD, qT⟩ := q; exact ⟨q0, q1, qP, va_K.moved (u := U) (U := U.calling g mk a) (Vm.Alike.refl U.vm) qK, qD, tb_calling qT⟩, fun U hU hW => ⟨rfl, by rw [hU], by rw [hU]; exact hPc, va_K.moved hW.alike hK, hDc.weaken (fun _ _ _ _ => trivial), hT.use hS hFc hU hW.alike⟩⟩ rfl rfl hl.1 rfl (lv_room (Nat.le_of_ble_eq_true rfl)) d_Tree_init_99 ⟨Nat.le_of_ble_eq_true rfl, Nat.le_of_ble_eq_true rfl⟩) hS (fun q _ h => hFc q h) hFc (fun r_16 u_16 t H1 locs ht hvm hq16 hB hz1 hk1 hS => ?_)
      obtain ⟨hP1, hK1, hD1⟩ := hB
      rw [ht] at hP1
      obtain ⟨hP, hD⟩ := va_join (wr := [(o, .inr (5, [.ref q_1, .int u_15.2])), (q_1, .inl (cI, 512, .inl u_15.1))]) (w1 := []) hP hD [] [0, 1] rfl rfl (by decide) (by decide) hk1 hFc hP1 hD1
      generalize H1 = H at hP hS ht ⊢
      have hP : va_P (dC, dI) classes [(o, .inr (5, [.ref q_1, .int u_15.2])), (q_1, .inl (cI, 512, .inl u_15.1))] H := hP
      have hD : va_D A [(o, .inr (5, [.ref q_1, .int u_15.2])), (q_1, .inl (cI, 512, .inl u_15.1))] := hD
      have er_16 : f_Words_rest k true = r_16 := hq16.symm
      refine lv_iload_n hx hb d_Tree_init_102 rfl (lv_at hl 0 rfl) ?_
      have hPc := hP.sub (ws' := [(o, .inr (5, [.ref q_1, .int u_15.2])), (q_1, .inl (cI, 512, .inl u_15.1))]) [0, 1] rfl
      have hDc := hD.sub (ws' := [(o, .inr (5, [.ref q_1, .int u_15.2])), (q_1, .inl (cI, 512, .inl u_15.1))]) [0, 1] (by decide) rfl
      have hFc := va_free (wc := [(o, .inr (5, [.ref q_1, .int u_15.2])), (q_1, .inl (cI, 512, .inl u_15.1))]) hD hS hA [0, 1] rfl
      refine va_callv (va_runV (As := [.int 4, .int r_16, .int k]) (rest := []) ⟨hx, hb, hml, hown, hw⟩ (c_Tree_put l dC dI cI cL o q_1 H.size u_15 4 r_16 k) (cwV 3 hw (gd_V m_208 m_210 m_0 m_42 m_211) rfl rfl rfl (by decide +kernel) ⟨Nat.le_of_ble_eq_true rfl, Nat.le_of_ble_eq_true rfl⟩) ⟨fun a U g mk q => by obtain ⟨q0, q1, qP, qK, qD⟩ := q; exact ⟨q0, q1, qP, va_K.moved (u := U) (U := U.calling g mk a) (Vm.Alike.refl U.vm) qK, qD⟩, va_recv hK hPc (ci := 5) (q0 := 0) rfl rfl, fun U hU hW => ⟨rfl, by rw [hU], by rw [hU]; exact hPc, va_K.moved hW.alike hK, hDc.weaken (fun _ _ _ _ => trivial)⟩⟩ rfl rfl hl.1 rfl (lv_room (Nat.le_of_ble_eq_true rfl)) d_Tree_init_103 ⟨Nat.le_of_ble_eq_true rfl, Nat.le_of_ble_eq_true rfl⟩) hS (fun q _ h => hFc q h) hFc (fun u_17 t H1 locs ht hvm hq17 hB hz1 hk1 hS => ?_)
      obtain ⟨hP1, hK1, hD1⟩ := hB
      rw [ht] at hP1
      obtain ⟨hP, hD⟩ := va_join (wr := []) (w1 := [(o, .inr (5, [.ref q_1, .int u_17.2])), (q_1, .inl (cI, 512, .inl u_17.1))]) hP hD [0, 1] [] rfl rfl (by decide) (by decide) hk1 hFc hP1 hD1
      generalize H1 = H at hP hS ht ⊢
      have hP : va_P (dC, dI) classes [(o, .inr (5, [.ref q_1, .int u_17.2])), (q_1, .inl (cI, 512, .inl u_17.1))] H := hP
      have hD : va_D A [(o, .inr (5, [.ref q_1, .int u_17.2])), (q_1, .inl (cI, 512, .inl u_17.1))] := hD
      have eu_17 : f_Tree_put u_15 4 r_16 k = u_17 := hq17.symm
      obtain ⟨x_18, ex_18⟩ : ∃ y : Int32, y = k + 1 := ⟨_, rfl⟩
      refine lv_iinc (v := x_18) (lv' := [(1, .int x_18), (0, .ref o)]) hx hb d_Tree_init_106 hl (k := 0) rfl (by rw [ex_18]; rfl) (by decide) rfl (fun ls hl => ?_)
      replace ex_18 := ex_18.symm
      refine lv_goto (tgt := 78) hx hb d_Tree_init_109 (by decide) ?_
      have hF9 : f_Tree_init = l_Tree_init_78 (l_Tree_init_20 n20) n78 u_17 x_18 := (by subst er_14 eu_15 er_16 eu_17 ex_18; exact (hF78.trans ((if_neg c_7).trans (rfl))))
      have hI9 : True := (by subst er_14 eu_15 er_16 eu_17 ex_18; trivial)
      have hP9 := hP.sub (ws' := [(o, .inr (5, [.ref q_1, .int u_17.2])), (q_1, .inl (cI, 512, .inl u_17.1))]) [0, 1] rfl
      have hD9 := hD.sub (ws' := [(o, .inr (5, [.ref q_1, .int u_17.2])), (q_1, .inl (cI, 512, .inl u_17.1))]) [0, 1] (by decide) rfl
      have hl9 := lv_sub (l' := [(1, .int x_18), (0, .ref o)]) hl [0, 1] rfl
      have hm9 : ((64 : Int32).toInt - Int32.toInt x_18).toNat < ((64 : Int32).toInt - Int32.toInt k).toNat := (by subst er_14 eu_15 er_16 eu_17 ex_18; exact mu_b c_7)
      exact ih78 (u_17, x_18) _ _ _ ⟨Nat.lt_of_lt_of_le hm9 (Nat.le_of_lt_succ hmu78), hF9, hI9, hP9, hD9, hS, hl9⟩
  · refine lv_aload_n hx hb d_Tree_init_26 rfl (lv_at hl 1 rfl) ?_
    refine lv_iconst (v := 0) hx hb d_Tree_init_27 (by decide) ?_
    refine lv_iload_n hx hb d_Tree_init_28 rfl (lv_at hl 0 rfl) ?_
    have hPc := hP.sub (ws' := []) [] rfl
    have hDc := hD.sub (ws' := []) [] (by decide) rfl
    have hFc := va_free (wc := []) hD hS hA [] rfl
    refine va_calli (va_runS (As := [.int k]) (rest := [.int 0, .ref o]) ⟨hx, hb, hml, hown, hw⟩ (c_Words_step l dC dI cI cL H.size k) (va_cwS 1 hw (gd_S m_200 m_201 m_43 m_202) rfl rfl rfl (by decide +kernel) ⟨Nat.le_of_ble_eq_true rfl, Nat.le_of_ble_eq_true rfl⟩) ⟨fun a U g mk q => by obtain ⟨q0, q1, qP, qK, qD, qT⟩ := q; exact ⟨q0, q1, qP, va_K.moved (u := U) (U := U.calling g mk a) (Vm.Alike.refl U.vm) qK, qD, tb_calling qT⟩, fun U hU hW => ⟨rfl, by rw [hU], by rw [hU]; exact hPc, va_K.moved hW.alike hK, hDc.weaken (fun _ _ _ _ => trivial), hT.use hS hFc hU hW.alike⟩⟩ rfl rfl hl.1 rfl (lv_room (Nat.le_of_ble_eq_true rfl)) d_Tree_init_29 ⟨Nat.le_of_ble_eq_true rfl, Nat.le_of_ble_eq_true rfl⟩) hS (fun q _ h => hFc q h) hFc (fun r_19 u_19 t H1 locs ht hvm hq19 hB hz1 hk1 hS => ?_)
    obtain ⟨hP1, hK1, hD1⟩ := hB
    rw [ht] at hP1
    obtain ⟨hP, hD⟩ := va_join (wr := [(o, .inr (5, [.ref q_1, .int z.2])), (q_1, .inl (cI, 512, .inl z.1))]) (w1 := []) hP hD [] [0, 1] rfl rfl (by decide) (by decide) hk1 hFc hP1 hD1
    generalize H1 = H at hP hS ht ⊢
    have hP : va_P (dC, dI) classes [(o, .inr (5, [.ref q_1, .int z.2])), (q_1, .inl (cI, 512, .inl z.1))] H := hP
    have hD : va_D A [(o, .inr (5, [.ref q_1, .int z.2])), (q_1, .inl (cI, 512, .inl z.1))] := hD
    have er_19 : f_Words_step k = r_19 := hq19.symm
    refine lv_iload_n hx hb d_Tree_init_32 rfl (lv_at hl 0 rfl) ?_
    have hPc := hP.sub (ws' := [(o, .inr (5, [.ref q_1, .int z.2])), (q_1, .inl (cI, 512, .inl z.1))]) [0, 1] rfl
    have hDc := hD.sub (ws' := [(o, .inr (5, [.ref q_1, .int z.2])), (q_1, .inl (cI, 512, .inl z.1))]) [0, 1] (by decide) rfl
    have hFc := va_free (wc := [(o, .inr (5, [.ref q_1, .int z.2])), (q_1, .inl (cI, 512, .inl z.1))]) hD hS hA [0, 1] rfl
    refine va_callv (va_runV (As := [.int 0, .int r_19, .int k]) (rest := []) ⟨hx, hb, hml, hown, hw⟩ (c_Tree_put l dC dI cI cL o q_1 H.size z 0 r_19 k) (cwV 3 hw (gd_V m_208 m_210 m_0 m_42 m_211) rfl rfl rfl (by decide +kernel) ⟨Nat.le_of_ble_eq_true rfl, Nat.le_of_ble_eq_true rfl⟩) ⟨fun a U g mk q => by obtain ⟨q0, q1, qP, qK, qD⟩ := q; exact ⟨q0, q1, qP, va_K.moved (u := U) (U := U.calling g mk a) (Vm.Alike.refl U.vm) qK, qD⟩, va_recv hK hPc (ci := 5) (q0 := 0) rfl rfl, fun U hU hW => ⟨rfl, by rw [hU], by rw [hU]; exact hPc, va_K.moved hW.alike hK, hDc.weaken (fun _ _ _ _ => trivial)⟩⟩ rfl rfl hl.1 rfl (lv_room (Nat.le_of_ble_eq_true rfl)) d_Tree_init_33 ⟨Nat.le_of_ble_eq_true rfl, Nat.le_of_ble_eq_true rfl⟩) hS (fun q _ h => hFc q h) hFc (fun u_20 t H1 locs ht hvm hq20 hB hz1 hk1 hS => ?_)
    obtain ⟨hP1, hK1, hD1⟩ := hB
    rw [ht] at hP1
    obtain ⟨hP, hD⟩ := va_join (wr := []) (w1 := [(o, .inr (5, [.ref q_1, .int u_20.2])), (q_1, .inl (cI, 512, .inl u_20.1))]) hP hD [0, 1] [] rfl rfl (by decide) (by decide) hk1 hFc hP1 hD1
    generalize H1 = H at hP hS ht ⊢
    have hP : va_P (dC, dI) classes [(o, .inr (5, [.ref q_1, .int u_20.2])), (q_1, .inl (cI, 512, .inl u_20.1))] H := hP
    have hD : va_D A [(o, .inr (5, [.ref q_1, .int u_20.2])), (q_1, .inl (cI, 512, .inl u_20.1))] := hD
    have eu_20 : f_Tree_put z 0 r_19 k = u_20 := hq20.symm
    refine lv_aload_n hx hb d_Tree_init_36 rfl (lv_at hl 1 rfl) ?_
    refine lv_iconst (v := 1) hx hb d_Tree_init_37 (by decide) ?_
    refine lv_iload_n hx hb d_Tree_init_38 rfl (lv_at hl 0 rfl) ?_
    have hPc := hP.sub (ws' := []) [] rfl
    have hDc := hD.sub (ws' := []) [] (by decide) rfl
    have hFc := va_free (wc := []) hD hS hA [] rfl
    refine va_calli (va_runS (As := [.int k]) (rest := [.int 1, .ref o]) ⟨hx, hb, hml, hown, hw⟩ (c_Words_step l dC dI cI cL H.size k) (va_cwS 1 hw (gd_S m_200 m_201 m_43 m_202) rfl rfl rfl (by decide +kernel) ⟨Nat.le_of_ble_eq_true rfl, Nat.le_of_ble_eq_true rfl⟩) ⟨fun a U g mk q => by obtain ⟨q0, q1, qP, qK, qD, qT⟩ := q; exact ⟨q0, q1, qP, va_K.moved (u := U) (U := U.calling g mk a) (Vm.Alike.refl U.vm) qK, qD, tb_calling qT⟩, fun U hU hW => ⟨rfl, by rw [hU], by rw [hU]; exact hPc, va_K.moved hW.alike hK, hDc.weaken (fun _ _ _ _ => trivial), hT.use hS hFc hU hW.alike⟩⟩ rfl rfl hl.1 rfl (lv_room (Nat.le_of_ble_eq_true rfl)) d_Tree_init_39 ⟨Nat.le_of_ble_eq_true rfl, Nat.le_of_ble_eq_true rfl⟩) hS (fun q _ h => hFc q h) hFc (fun r_21 u_21 t H1 locs ht hvm hq21 hB hz1 hk1 hS => ?_)
    obtain ⟨hP1, hK1, hD1⟩ := hB
    rw [ht] at hP1
    obtain ⟨hP, hD⟩ := va_join (wr := [(o, .inr (5, [.ref q_1, .int u_20.2])), (q_1, .inl (cI, 512, .inl u_20.1))]) (w1 := []) hP hD [] [0, 1] rfl rfl (by decide) (by decide) hk1 hFc hP1 hD1
    generalize H1 = H at hP hS ht ⊢
    have hP : va_P (dC, dI) classes [(o, .inr (5, [.ref q_1, .int u_20.2])), (q_1, .inl (cI, 512, .inl u_20.1))] H := hP
    have hD : va_D A [(o, .inr (5, [.ref q_1, .int u_20.2])), (q_1, .inl (cI, 512, .inl u_20.1))] := hD
    have er_21 : f_Words_step k = r_21 := hq21.symm
    refine lv_iload_n hx hb d_Tree_init_42 rfl (lv_at hl 0 rfl) ?_
    have hPc := hP.sub (ws' := [(o, .inr (5, [.ref q_1, .int u_20.2])), (q_1, .inl (cI, 512, .inl u_20.1))]) [0, 1] rfl
    have hDc := hD.sub (ws' := [(o, .inr (5, [.ref q_1, .int u_20.2])), (q_1, .inl (cI, 512, .inl u_20.1))]) [0, 1] (by decide) rfl
    have hFc := va_free (wc := [(o, .inr (5, [.ref q_1, .int u_20.2])), (q_1, .inl (cI, 512, .inl u_20.1))]) hD hS hA [0, 1] rfl
    refine va_callv (va_runV (As := [.int 1, .int r_21, .int k]) (rest := []) ⟨hx, hb, hml, hown, hw⟩ (c_Tree_put l dC dI cI cL o q_1 H.size u_20 1 r_21 k) (cwV 3 hw (gd_V m_208 m_210 m_0 m_42 m_211) rfl rfl rfl (by decide +kernel) ⟨Nat.le_of_ble_eq_true rfl, Nat.le_of_ble_eq_true rfl⟩) ⟨fun a U g mk q => by obtain ⟨q0, q1, qP, qK, qD⟩ := q; exact ⟨q0, q1, qP, va_K.moved (u := U) (U := U.calling g mk a) (Vm.Alike.refl U.vm) qK, qD⟩, va_recv hK hPc (ci := 5) (q0 := 0) rfl rfl, fun U hU hW => ⟨rfl, by rw [hU], by rw [hU]; exact hPc, va_K.moved hW.alike hK, hDc.weaken (fun _ _ _ _ => trivial)⟩⟩ rfl rfl hl.1 rfl (lv_room (Nat.le_of_ble_eq_true rfl)) d_Tree_init_43 ⟨Nat.le_of_ble_eq_true rfl, Nat.le_of_ble_eq_true rfl⟩) hS (fun q _ h => hFc q h) hFc (fun u_22 t H1 locs ht hvm hq22 hB hz1 hk1 hS => ?_)
    obtain ⟨hP1, hK1, hD1⟩ := hB
    rw [ht] at hP1
    obtain ⟨hP, hD⟩ := va_join (wr := []) (w1 := [(o, .inr (5, [.ref q_1, .int u_22.2])), (q_1, .inl (cI, 512, .inl u_22.1))]) hP hD [0, 1] [] rfl rfl (by decide) (by decide) hk1 hFc hP1 hD1
    generalize H1 = H at hP hS ht ⊢
    have hP : va_P (dC, dI) classes [(o, .inr (5, [.ref q_1, .int u_22.2])), (q_1, .inl (cI, 512, .inl u_22.1))] H := hP
    have hD : va_D A [(o, .inr (5, [.ref q_1, .int u_22.2])), (q_1, .inl (cI, 512, .inl u_22.1))] := hD
    have eu_22 : f_Tree_put u_20 1 r_21 k = u_22 := hq22.symm
    obtain ⟨x_23, ex_23⟩ : ∃ y : Int32, y = k + 1 := ⟨_, rfl⟩
    refine lv_iinc (v := x_23) (lv' := [(1, .int x_23), (0, .ref o)]) hx hb d_Tree_init_46 hl (k := 0) rfl (by rw [ex_23]; rfl) (by decide) rfl (fun ls hl => ?_)
    replace ex_23 := ex_23.symm
    refine lv_goto (tgt := 20) hx hb d_Tree_init_49 (by decide) ?_
    have hF9 : f_Tree_init = l_Tree_init_20 n20 u_22 x_23 := (by subst er_19 eu_20 er_21 eu_22 ex_23; exact (hF20.trans ((if_neg c_2).trans (rfl))))
    have hI9 : True := (by subst er_19 eu_20 er_21 eu_22 ex_23; trivial)
    have hP9 := hP.sub (ws' := [(o, .inr (5, [.ref q_1, .int u_22.2])), (q_1, .inl (cI, 512, .inl u_22.1))]) [0, 1] rfl
    have hD9 := hD.sub (ws' := [(o, .inr (5, [.ref q_1, .int u_22.2])), (q_1, .inl (cI, 512, .inl u_22.1))]) [0, 1] (by decide) rfl
    have hl9 := lv_sub (l' := [(1, .int x_23), (0, .ref o)]) hl [0, 1] rfl
    have hm9 : ((9 : Int32).toInt - Int32.toInt x_23).toNat < ((9 : Int32).toInt - Int32.toInt k).toNat := (by subst er_19 eu_20 er_21 eu_22 ex_23; exact mu_b c_2)
    exact ih20 (u_22, x_23) _ _ _ ⟨Nat.lt_of_lt_of_le hm9 (Nat.le_of_lt_succ hmu20), hF9, hI9, hP9, hD9, hS, hl9⟩
