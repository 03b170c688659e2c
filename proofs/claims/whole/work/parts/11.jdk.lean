def f_Integer_numberOfLeadingZeros (i : Int32) : Int32 := if 0 < i then (if i < 65536 then (if i < 256 then (if i < 16 then (if i < 4 then (31 - ((i.toUInt32 >>> ((1 : Int32).toUInt32 &&& Int32.toUInt32 31)).toInt32)) else (let x_6 := 31 + (-2); let x_7 := (i.toUInt32 >>> ((2 : Int32).toUInt32 &&& Int32.toUInt32 31)).toInt32; x_6 - ((x_7.toUInt32 >>> ((1 : Int32).toUInt32 &&& Int32.toUInt32 31)).toInt32))) else (let x_8 := 31 + (-4); let x_9 := (i.toUInt32 >>> ((4 : Int32).toUInt32 &&& Int32.toUInt32 31)).toInt32; if x_9 < 4 then (x_8 - ((x_9.toUInt32 >>> ((1 : Int32).toUInt32 &&& Int32.toUInt32 31)).toInt32)) else (let x_11 := x_8 + (-2); let x_12 := (x_9.toUInt32 >>> ((2 : Int32).toUInt32 &&& Int32.toUInt32 31)).toInt32; x_11 - ((x_12.toUInt32 >>> ((1 : Int32).toUInt32 &&& Int32.toUInt32 31)).toInt32)))) else (let x_13 := 31 + (-8); let x_14 := (i.toUInt32 >>> ((8 : Int32).toUInt32 &&& Int32.toUInt32 31)).toInt32; if x_14 < 16 then (if x_14 < 4 then (x_13 - ((x_14.toUInt32 >>> ((1 : Int32).toUInt32 &&& Int32.toUInt32 31)).toInt32)) else (let x_17 := x_13 + (-2); let x_18 := (x_14.toUInt32 >>> ((2 : Int32).toUInt32 &&& Int32.toUInt32 31)).toInt32; x_17 - ((x_18.toUInt32 >>> ((1 : Int32).toUInt32 &&& Int32.toUInt32 31)).toInt32))) else (let x_19 := x_13 + (-4); let x_20 := (x_14.toUInt32 >>> ((4 : Int32).toUInt32 &&& Int32.toUInt32 31)).toInt32; if x_20 < 4 then (x_19 - ((x_20.toUInt32 >>> ((1 : Int32).toUInt32 &&& Int32.toUInt32 31)).toInt32)) else (let x_22 := x_19 + (-2); let x_23 := (x_20.toUInt32 >>> ((2 : Int32).toUInt32 &&& Int32.toUInt32 31)).toInt32; x_22 - ((x_23.toUInt32 >>> ((1 : Int32).toUInt32 &&& Int32.toUInt32 31)).toInt32))))) else (let x_24 := 31 + (-16); let x_25 := (i.toUInt32 >>> ((16 : Int32).toUInt32 &&& Int32.toUInt32 31)).toInt32; if x_25 < 256 then (if x_25 < 16 then (if x_25 < 4 then (x_24 - ((x_25.toUInt32 >>> ((1 : Int32).toUInt32 &&& Int32.toUInt32 31)).toInt32)) else (let x_29 := x_24 + (-2); let x_30 := (x_25.toUInt32 >>> ((2 : Int32).toUInt32 &&& Int32.toUInt32 31)).toInt32; x_29 - ((x_30.toUInt32 >>> ((1 : Int32).toUInt32 &&& Int32.toUInt32 31)).toInt32))) else (let x_31 := x_24 + (-4); let x_32 := (x_25.toUInt32 >>> ((4 : Int32).toUInt32 &&& Int32.toUInt32 31)).toInt32; if x_32 < 4 then (x_31 - ((x_32.toUInt32 >>> ((1 : Int32).toUInt32 &&& Int32.toUInt32 31)).toInt32)) else (let x_34 := x_31 + (-2); let x_35 := (x_32.toUInt32 >>> ((2 : Int32).toUInt32 &&& Int32.toUInt32 31)).toInt32; x_34 - ((x_35.toUInt32 >>> ((1 : Int32).toUInt32 &&& Int32.toUInt32 31)).toInt32)))) else (let x_36 := x_24 + (-8); let x_37 := (x_25.toUInt32 >>> ((8 : Int32).toUInt32 &&& Int32.toUInt32 31)).toInt32; if x_37 < 16 then (if x_37 < 4 then (x_36 - ((x_37.toUInt32 >>> ((1 : Int32).toUInt32 &&& Int32.toUInt32 31)).toInt32)) else (let x_40 := x_36 + (-2); let x_41 := (x_37.toUInt32 >>> ((2 : Int32).toUInt32 &&& Int32.toUInt32 31)).toInt32; x_40 - ((x_41.toUInt32 >>> ((1 : Int32).toUInt32 &&& Int32.toUInt32 31)).toInt32))) else (let x_42 := x_36 + (-4); let x_43 := (x_37.toUInt32 >>> ((4 : Int32).toUInt32 &&& Int32.toUInt32 31)).toInt32; if x_43 < 4 then (x_42 - ((x_43.toUInt32 >>> ((1 : Int32).toUInt32 &&& Int32.toUInt32 31)).toInt32)) else (let x_45 := x_42 + (-2); let x_46 := (x_43.toUInt32 >>> ((2 : Int32).toUInt32 &&& Int32.toUInt32 31)).toInt32; x_45 - ((x_46.toUInt32 >>> ((1 : Int32).toUInt32 &&& Int32.toUInt32 31)).toInt32)))))) else (if i = 0 then (32) else (0))
set_option maxHeartbeats 4000000 in
set_option maxRecDepth 100000 in
theorem c_Integer_numberOfLeadingZeros (l : Launch) (dC : Nat → ClassId) (dI : Nat → Nat → Nat) (cI cL : ClassId)  (sz : Nat)  (i : Int32)  : Met l y_Integer_numberOfLeadingZeros w_Integer_numberOfLeadingZeros ({ frames := 0, cells := 0, slots := 0, locals := 0 }) (va_Pc [.int i] (fun U => U.heap.size = sz ∧ va_P (dC, dI) classes [] U.heap ∧ va_K (dC, dI) classes [(cI, .int), (cL, .long)] U ∧ va_D (fun _ => True) [])) (va_Qi (fun (r : Int32) (u : Unit) => r = f_Integer_numberOfLeadingZeros i) (fun (u : Unit) (t : State) => va_P (dC, dI) classes [] t.heap ∧ va_K (dC, dI) classes [(cI, .int), (cL, .long)] t ∧ va_D (va_A [] sz) []) (va_A [] sz)) 0 0 (va_A [] sz) := by
  refine Met.ofW (cc := b_Integer_numberOfLeadingZeros) (maxL := 2) (ret := (some .int)) (by decide) rfl ?_
  intro p e s m args below meth c s₁ B hml hv
  obtain ⟨rfl, hsz, hP, hK, hD0⟩ := hv
  have hx := B.exec
  have hb := B.bytes
  have hr := B.returns
  have hts := atoms_spec (ws := w_Integer_numberOfLeadingZeros) B.pre
  have hw : ∀ w ∈ WA, w.before _ s = true := fun w h => hts w (List.mem_cons_of_mem _ h)
  have hown : s.vm.findClass R_Integer = some m.cls := findClass_of_methodNamed B.named
  have hlocks := B.notSynchronized
  subst hsz
  have hD := hD0.self (sz := s.heap.size)
  generalize hAe : va_A [] s.heap.size = A at hD ⊢
  have hA : ∀ q : Nat, s.heap.size ≤ q → A q := fun q h => by rw [← hAe]; exact Or.inr h
  have hS : va_S A s.heap s.heap [] := va_S.rf
  have hP : va_P (dC, dI) classes [] s.heap := hP
  have hl := lv_entry ([.int i]) (n := 2) (Nat.le_of_ble_eq_true rfl)
  rw [lg_entry_eq]
  generalize (lg_sl ([.int i]) ++ List.replicate (2 - (lg_sl ([.int i])).length) Slot.unset).toArray = ls at hl ⊢
  have hl : lv_has ls 2 [(0, .int i)] := hl
  refine lv_iload_n hx hb d_Integer_numberOfLeadingZeros_0 rfl (lv_at hl 0 rfl) ?_
  refine lv_if_gt (tgt := 15) hx hb d_Integer_numberOfLeadingZeros_1 (by decide) (fun c_1 => ?_) (fun c_1 => ?_)
  · refine lv_bipush (v := 31) hx hb d_Integer_numberOfLeadingZeros_15 (by decide) ?_
    refine lv_istore_n (lv' := [(1, .int 31), (0, .int i)]) hx hb d_Integer_numberOfLeadingZeros_17 rfl hl (by decide) rfl (fun ls hl => ?_)
    refine lv_iload_n hx hb d_Integer_numberOfLeadingZeros_18 rfl (lv_at hl 1 rfl) ?_
    refine lv_ldcw (v := 65536) hx hb hown (hw _ m_218) d_Integer_numberOfLeadingZeros_19 ?_
    refine lv_icmp_lt (tgt := 33) hx hb d_Integer_numberOfLeadingZeros_22 (by decide) (fun c_2 => ?_) (fun c_2 => ?_)
    · refine lv_iload_n hx hb d_Integer_numberOfLeadingZeros_33 rfl (lv_at hl 1 rfl) ?_
      refine lv_sipush (v := 256) hx hb d_Integer_numberOfLeadingZeros_34 (by decide) ?_
      refine lv_icmp_lt (tgt := 48) hx hb d_Integer_numberOfLeadingZeros_37 (by decide) (fun c_3 => ?_) (fun c_3 => ?_)
      · refine lv_iload_n hx hb d_Integer_numberOfLeadingZeros_48 rfl (lv_at hl 1 rfl) ?_
        refine lv_bipush (v := 16) hx hb d_Integer_numberOfLeadingZeros_49 (by decide) ?_
        refine lv_icmp_lt (tgt := 61) hx hb d_Integer_numberOfLeadingZeros_51 (by decide) (fun c_4 => ?_) (fun c_4 => ?_)
        · refine lv_iload_n hx hb d_Integer_numberOfLeadingZeros_61 rfl (lv_at hl 1 rfl) ?_
          refine lv_iconst (v := 4) hx hb d_Integer_numberOfLeadingZeros_62 (by decide) ?_
          refine lv_icmp_lt (tgt := 73) hx hb d_Integer_numberOfLeadingZeros_63 (by decide) (fun c_5 => ?_) (fun c_5 => ?_)
          · refine lv_iload_n hx hb d_Integer_numberOfLeadingZeros_73 rfl (lv_at hl 0 rfl) ?_
            refine lv_iload_n hx hb d_Integer_numberOfLeadingZeros_74 rfl (lv_at hl 1 rfl) ?_
            refine lv_iconst (v := 1) hx hb d_Integer_numberOfLeadingZeros_75 (by decide) ?_
            refine lv_iushr hx hb d_Integer_numberOfLeadingZeros_76 rfl ?_
            refine lv_isub hx hb d_Integer_numberOfLeadingZeros_77 ?_
            have hP9 := hP.sub (ws' := []) [] rfl
            have hD9 := hD.sub (ws' := []) [] (by decide) rfl
            have hK9 := hK
            exact W.iret (v := 31 - ((i.toUInt32 >>> ((1 : Int32).toUInt32 &&& Int32.toUInt32 31)).toInt32)) hx hb hr (fun t ht hW => ⟨⟨31 - ((i.toUInt32 >>> ((1 : Int32).toUInt32 &&& Int32.toUInt32 31)).toInt32), (), rfl, (by have h9 : f_Integer_numberOfLeadingZeros i = 31 - ((i.toUInt32 >>> ((1 : Int32).toUInt32 &&& Int32.toUInt32 31)).toInt32) := (by exact ((if_pos c_1).trans ((if_pos c_2).trans ((if_pos c_3).trans ((if_pos c_4).trans ((if_pos c_5).trans (rfl))))))); exact h9.symm), ⟨by rw [ht]; exact hP9, va_K.moved hW.alike hK9, hD9⟩⟩, hS.F ht⟩) hS.2.2 d_Integer_numberOfLeadingZeros_78
          · obtain ⟨x_6, ex_6⟩ : ∃ y : Int32, y = 31 + (-2) := ⟨_, rfl⟩
            refine lv_iinc (v := x_6) (lv' := [(1, .int x_6), (0, .int i)]) hx hb d_Integer_numberOfLeadingZeros_66 hl (k := 0) rfl (by rw [ex_6]; rfl) (by decide) rfl (fun ls hl => ?_)
            replace ex_6 := ex_6.symm
            refine lv_iload_n hx hb d_Integer_numberOfLeadingZeros_69 rfl (lv_at hl 1 rfl) ?_
            refine lv_iconst (v := 2) hx hb d_Integer_numberOfLeadingZeros_70 (by decide) ?_
            refine lv_iushr hx hb d_Integer_numberOfLeadingZeros_71 rfl ?_
            refine lv_topi (fun x_7 ex_7 => ?_)
            replace ex_7 := ex_7.symm
            refine lv_istore_n (lv' := [(0, .int x_7), (1, .int x_6)]) hx hb d_Integer_numberOfLeadingZeros_72 rfl hl (by decide) rfl (fun ls hl => ?_)
            refine lv_iload_n hx hb d_Integer_numberOfLeadingZeros_73 rfl (lv_at hl 1 rfl) ?_
            refine lv_iload_n hx hb d_Integer_numberOfLeadingZeros_74 rfl (lv_at hl 0 rfl) ?_
            refine lv_iconst (v := 1) hx hb d_Integer_numberOfLeadingZeros_75 (by decide) ?_
            refine lv_iushr hx hb d_Integer_numberOfLeadingZeros_76 rfl ?_
            refine lv_isub hx hb d_Integer_numberOfLeadingZeros_77 ?_
            have hP9 := hP.sub (ws' := []) [] rfl
            have hD9 := hD.sub (ws' := []) [] (by decide) rfl
            have hK9 := hK
            exact W.iret (v := x_6 - ((x_7.toUInt32 >>> ((1 : Int32).toUInt32 &&& Int32.toUInt32 31)).toInt32)) hx hb hr (fun t ht hW => ⟨⟨x_6 - ((x_7.toUInt32 >>> ((1 : Int32).toUInt32 &&& Int32.toUInt32 31)).toInt32), (), rfl, (by have h9 : f_Integer_numberOfLeadingZeros i = x_6 - ((x_7.toUInt32 >>> ((1 : Int32).toUInt32 &&& Int32.toUInt32 31)).toInt32) := (by subst ex_6 ex_7; exact ((if_pos c_1).trans ((if_pos c_2).trans ((if_pos c_3).trans ((if_pos c_4).trans ((if_neg c_5).trans (rfl))))))); exact h9.symm), ⟨by rw [ht]; exact hP9, va_K.moved hW.alike hK9, hD9⟩⟩, hS.F ht⟩) hS.2.2 d_Integer_numberOfLeadingZeros_78
        · obtain ⟨x_8, ex_8⟩ : ∃ y : Int32, y = 31 + (-4) := ⟨_, rfl⟩
          refine lv_iinc (v := x_8) (lv' := [(1, .int x_8), (0, .int i)]) hx hb d_Integer_numberOfLeadingZeros_54 hl (k := 0) rfl (by rw [ex_8]; rfl) (by decide) rfl (fun ls hl => ?_)
          replace ex_8 := ex_8.symm
          refine lv_iload_n hx hb d_Integer_numberOfLeadingZeros_57 rfl (lv_at hl 1 rfl) ?_
          refine lv_iconst (v := 4) hx hb d_Integer_numberOfLeadingZeros_58 (by decide) ?_
          refine lv_iushr hx hb d_Integer_numberOfLeadingZeros_59 rfl ?_
          refine lv_topi (fun x_9 ex_9 => ?_)
          replace ex_9 := ex_9.symm
          refine lv_istore_n (lv' := [(0, .int x_9), (1, .int x_8)]) hx hb d_Integer_numberOfLeadingZeros_60 rfl hl (by decide) rfl (fun ls hl => ?_)
          refine lv_iload_n hx hb d_Integer_numberOfLeadingZeros_61 rfl (lv_at hl 0 rfl) ?_
          refine lv_iconst (v := 4) hx hb d_Integer_numberOfLeadingZeros_62 (by decide) ?_
          refine lv_icmp_lt (tgt := 73) hx hb d_Integer_numberOfLeadingZeros_63 (by decide) (fun c_10 => ?_) (fun c_10 => ?_)
          · refine lv_iload_n hx hb d_Integer_numberOfLeadingZeros_73 rfl (lv_at hl 1 rfl) ?_
            refine lv_iload_n hx hb d_Integer_numberOfLeadingZeros_74 rfl (lv_at hl 0 rfl) ?_
            refine lv_iconst (v := 1) hx hb d_Integer_numberOfLeadingZeros_75 (by decide) ?_
            refine lv_iushr hx hb d_Integer_numberOfLeadingZeros_76 rfl ?_
            refine lv_isub hx hb d_Integer_numberOfLeadingZeros_77 ?_
            have hP9 := hP.sub (ws' := []) [] rfl
            have hD9 := hD.sub (ws' := []) [] (by decide) rfl
            have hK9 := hK
            exact W.iret (v := x_8 - ((x_9.toUInt32 >>> ((1 : Int32).toUInt32 &&& Int32.toUInt32 31)).toInt32)) hx hb hr (fun t ht hW => ⟨⟨x_8 - ((x_9.toUInt32 >>> ((1 : Int32).toUInt32 &&& Int32.toUInt32 31)).toInt32), (), rfl, (by have h9 : f_Integer_numberOfLeadingZeros i = x_8 - ((x_9.toUInt32 >>> ((1 : Int32).toUInt32 &&& Int32.toUInt32 31)).toInt32) := (by subst ex_8 ex_9; exact ((if_pos c_1).trans ((if_pos c_2).trans ((if_pos c_3).trans ((if_neg c_4).trans ((if_pos c_10).trans (rfl))))))); exact h9.symm), ⟨by rw [ht]; exact hP9, va_K.moved hW.alike hK9, hD9⟩⟩, hS.F ht⟩) hS.2.2 d_Integer_numberOfLeadingZeros_78
          · obtain ⟨x_11, ex_11⟩ : ∃ y : Int32, y = x_8 + (-2) := ⟨_, rfl⟩
            refine lv_iinc (v := x_11) (lv' := [(1, .int x_11), (0, .int x_9)]) hx hb d_Integer_numberOfLeadingZeros_66 hl (k := 1) rfl (by rw [ex_11]; rfl) (by decide) rfl (fun ls hl => ?_)
            replace ex_11 := ex_11.symm
            refine lv_iload_n hx hb d_Integer_numberOfLeadingZeros_69 rfl (lv_at hl 1 rfl) ?_
            refine lv_iconst (v := 2) hx hb d_Integer_numberOfLeadingZeros_70 (by decide) ?_
            refine lv_iushr hx hb d_Integer_numberOfLeadingZeros_71 rfl ?_
            refine lv_topi (fun x_12 ex_12 => ?_)
            replace ex_12 := ex_12.symm
            refine lv_istore_n (lv' := [(0, .int x_12), (1, .int x_11)]) hx hb d_Integer_numberOfLeadingZeros_72 rfl hl (by decide) rfl (fun ls hl => ?_)
            refine lv_iload_n hx hb d_Integer_numberOfLeadingZeros_73 rfl (lv_at hl 1 rfl) ?_
            refine lv_iload_n hx hb d_Integer_numberOfLeadingZeros_74 rfl (lv_at hl 0 rfl) ?_
            refine lv_iconst (v := 1) hx hb d_Integer_numberOfLeadingZeros_75 (by decide) ?_
            refine lv_iushr hx hb d_Integer_numberOfLeadingZeros_76 rfl ?_
            refine lv_isub hx hb d_Integer_numberOfLeadingZeros_77 ?_
            have hP9 := hP.sub (ws' := []) [] rfl
            have hD9 := hD.sub (ws' := []) [] (by decide) rfl
            have hK9 := hK
            exact W.iret (v := x_11 - ((x_12.toUInt32 >>> ((1 : Int32).toUInt32 &&& Int32.toUInt32 31)).toInt32)) hx hb hr (fun t ht hW => ⟨⟨x_11 - ((x_12.toUInt32 >>> ((1 : Int32).toUInt32 &&& Int32.toUInt32 31)).toInt32), (), rfl, (by have h9 : f_Integer_numberOfLeadingZeros i = x_11 - ((x_12.toUInt32 >>> ((1 : Int32).toUInt32 &&& Int32.toUInt32 31)).toInt32) := (by subst ex_8 ex_9 ex_11 ex_12; exact ((if_pos c_1).trans ((if_pos c_2).trans ((if_pos c_3).trans ((if_neg c_4).trans ((if_neg c_10).trans (rfl))))))); exact h9.symm), ⟨by rw [ht]; exact hP9, va_K.moved hW.alike hK9, hD9⟩⟩, hS.F ht⟩) hS.2.2 d_Integer_numberOfLeadingZeros_78
      · obtain ⟨x_13, ex_13⟩ : ∃ y : Int32, y = 31 + (-8) := ⟨_, rfl⟩
        refine lv_iinc (v := x_13) (lv' := [(1, .int x_13), (0, .int i)]) hx hb d_Integer_numberOfLeadingZeros_40 hl (k := 0) rfl (by rw [ex_13]; rfl) (by decide) rfl (fun ls hl => ?_)
        replace ex_13 := ex_13.symm
        refine lv_iload_n hx hb d_Integer_numberOfLeadingZeros_43 rfl (lv_at hl 1 rfl) ?_
        refine lv_bipush (v := 8) hx hb d_Integer_numberOfLeadingZeros_44 (by decide) ?_
        refine lv_iushr hx hb d_Integer_numberOfLeadingZeros_46 rfl ?_
        refine lv_topi (fun x_14 ex_14 => ?_)
        replace ex_14 := ex_14.symm
        refine lv_istore_n (lv' := [(0, .int x_14), (1, .int x_13)]) hx hb d_Integer_numberOfLeadingZeros_47 rfl hl (by decide) rfl (fun ls hl => ?_)
        refine lv_iload_n hx hb d_Integer_numberOfLeadingZeros_48 rfl (lv_at hl 0 rfl) ?_
        refine lv_bipush (v := 16) hx hb d_Integer_numberOfLeadingZeros_49 (by decide) ?_
        refine lv_icmp_lt (tgt := 61) hx hb d_Integer_numberOfLeadingZeros_51 (by decide) (fun c_15 => ?_) (fun c_15 => ?_)
        · refine lv_iload_n hx hb d_Integer_numberOfLeadingZeros_61 rfl (lv_at hl 0 rfl) ?_
          refine lv_iconst (v := 4) hx hb d_Integer_numberOfLeadingZeros_62 (by decide) ?_
          refine lv_icmp_lt (tgt := 73) hx hb d_Integer_numberOfLeadingZeros_63 (by decide) (fun c_16 => ?_) (fun c_16 => ?_)
          · refine lv_iload_n hx hb d_Integer_numberOfLeadingZeros_73 rfl (lv_at hl 1 rfl) ?_
            refine lv_iload_n hx hb d_Integer_numberOfLeadingZeros_74 rfl (lv_at hl 0 rfl) ?_
            refine lv_iconst (v := 1) hx hb d_Integer_numberOfLeadingZeros_75 (by decide) ?_
            refine lv_iushr hx hb d_Integer_numberOfLeadingZeros_76 rfl ?_
            refine lv_isub hx hb d_Integer_numberOfLeadingZeros_77 ?_
            have hP9 := hP.sub (ws' := []) [] rfl
            have hD9 := hD.sub (ws' := []) [] (by decide) rfl
            have hK9 := hK
            exact W.iret (v := x_13 - ((x_14.toUInt32 >>> ((1 : Int32).toUInt32 &&& Int32.toUInt32 31)).toInt32)) hx hb hr (fun t ht hW => ⟨⟨x_13 - ((x_14.toUInt32 >>> ((1 : Int32).toUInt32 &&& Int32.toUInt32 31)).toInt32), (), rfl, (by have h9 : f_Integer_numberOfLeadingZeros i = x_13 - ((x_14.toUInt32 >>> ((1 : Int32).toUInt32 &&& Int32.toUInt32 31)).toInt32) := (by subst ex_13 ex_14; exact ((if_pos c_1).trans ((if_pos c_2).trans ((if_neg c_3).trans ((if_pos c_15).trans ((if_pos c_16).trans (rfl))))))); exact h9.symm), ⟨by rw [ht]; exact hP9, va_K.moved hW.alike hK9, hD9⟩⟩, hS.F ht⟩) hS.2.2 d_Integer_numberOfLeadingZeros_78
          · obtain ⟨x_17, ex_17⟩ : ∃ y : Int32, y = x_13 + (-2) := ⟨_, rfl⟩
            refine lv_iinc (v := x_17) (lv' := [(1, .int x_17), (0, .int x_14)]) hx hb d_Integer_numberOfLeadingZeros_66 hl (k := 1) rfl (by rw [ex_17]; rfl) (by decide) rfl (fun ls hl => ?_)
            replace ex_17 := ex_17.symm
            refine lv_iload_n hx hb d_Integer_numberOfLeadingZeros_69 rfl (lv_at hl 1 rfl) ?_
            refine lv_iconst (v := 2) hx hb d_Integer_numberOfLeadingZeros_70 (by decide) ?_
            refine lv_iushr hx hb d_Integer_numberOfLeadingZeros_71 rfl ?_
            refine lv_topi (fun x_18 ex_18 => ?_)
            replace ex_18 := ex_18.symm
            refine lv_istore_n (lv' := [(0, .int x_18), (1, .int x_17)]) hx hb d_Integer_numberOfLeadingZeros_72 rfl hl (by decide) rfl (fun ls hl => ?_)
            refine lv_iload_n hx hb d_Integer_numberOfLeadingZeros_73 rfl (lv_at hl 1 rfl) ?_
            refine lv_iload_n hx hb d_Integer_numberOfLeadingZeros_74 rfl (lv_at hl 0 rfl) ?_
            refine lv_iconst (v := 1) hx hb d_Integer_numberOfLeadingZeros_75 (by decide) ?_
            refine lv_iushr hx hb d_Integer_numberOfLeadingZeros_76 rfl ?_
            refine lv_isub hx hb d_Integer_numberOfLeadingZeros_77 ?_
            have hP9 := hP.sub (ws' := []) [] rfl
            have hD9 := hD.sub (ws' := []) [] (by decide) rfl
            have hK9 := hK
            exact W.iret (v := x_17 - ((x_18.toUInt32 >>> ((1 : Int32).toUInt32 &&& Int32.toUInt32 31)).toInt32)) hx hb hr (fun t ht hW => ⟨⟨x_17 - ((x_18.toUInt32 >>> ((1 : Int32).toUInt32 &&& Int32.toUInt32 31)).toInt32), (), rfl, (by have h9 : f_Integer_numberOfLeadingZeros i = x_17 - ((x_18.toUInt32 >>> ((1 : Int32).toUInt32 &&& Int32.toUInt32 31)).toInt32) := (by subst ex_13 ex_14 ex_17 ex_18; exact ((if_pos c_1).trans ((if_pos c_2).trans ((if_neg c_3).trans ((if_pos c_15).trans ((if_neg c_16).trans (rfl))))))); exact h9.symm), ⟨by rw [ht]; exact hP9, va_K.moved hW.alike hK9, hD9⟩⟩, hS.F ht⟩) hS.2.2 d_Integer_numberOfLeadingZeros_78
        · obtain ⟨x_19, ex_19⟩ : ∃ y : Int32, y = x_13 + (-4) := ⟨_, rfl⟩
          refine lv_iinc (v := x_19) (lv' := [(1, .int x_19), (0, .int x_14)]) hx hb d_Integer_numberOfLeadingZeros_54 hl (k := 1) rfl (by rw [ex_19]; rfl) (by decide) rfl (fun ls hl => ?_)
          replace ex_19 := ex_19.symm
          refine lv_iload_n hx hb d_Integer_numberOfLeadingZeros_57 rfl (lv_at hl 1 rfl) ?_
          refine lv_iconst (v := 4) hx hb d_Integer_numberOfLeadingZeros_58 (by decide) ?_
          refine lv_iushr hx hb d_Integer_numberOfLeadingZeros_59 rfl ?_
          refine lv_topi (fun x_20 ex_20 => ?_)
          replace ex_20 := ex_20.symm
          refine lv_istore_n (lv' := [(0, .int x_20), (1, .int x_19)]) hx hb d_Integer_numberOfLeadingZeros_60 rfl hl (by decide) rfl (fun ls hl => ?_)
          refine lv_iload_n hx hb d_Integer_numberOfLeadingZeros_61 rfl (lv_at hl 0 rfl) ?_
          refine lv_iconst (v := 4) hx hb d_Integer_numberOfLeadingZeros_62 (by decide) ?_
          refine lv_icmp_lt (tgt := 73) hx hb d_Integer_numberOfLeadingZeros_63 (by decide) (fun c_21 => ?_) (fun c_21 => ?_)
          · refine lv_iload_n hx hb d_Integer_numberOfLeadingZeros_73 rfl (lv_at hl 1 rfl) ?_
            refine lv_iload_n hx hb d_Integer_numberOfLeadingZeros_74 rfl (lv_at hl 0 rfl) ?_
            refine lv_iconst (v := 1) hx hb d_Integer_numberOfLeadingZeros_75 (by decide) ?_
            refine lv_iushr hx hb d_Integer_numberOfLeadingZeros_76 rfl ?_
            refine lv_isub hx hb d_Integer_numberOfLeadingZeros_77 ?_
            have hP9 := hP.sub (ws' := []) [] rfl
            have hD9 := hD.sub (ws' := []) [] (by decide) rfl
            have hK9 := hK
            exact W.iret (v := x_19 - ((x_20.toUInt32 >>> ((1 : Int32).toUInt32 &&& Int32.toUInt32 31)).toInt32)) hx hb hr (fun t ht hW => ⟨⟨x_19 - ((x_20.toUInt32 >>> ((1 : Int32).toUInt32 &&& Int32.toUInt32 31)).toInt32), (), rfl, (by have h9 : f_Integer_numberOfLeadingZeros i = x_19 - ((x_20.toUInt32 >>> ((1 : Int32).toUInt32 &&& Int32.toUInt32 31)).toInt32) := (by subst ex_13 ex_14 ex_19 ex_20; exact ((if_pos c_1).trans ((if_pos c_2).trans ((if_neg c_3).trans ((if_neg c_15).trans ((if_pos c_21).trans (rfl))))))); exact h9.symm), ⟨by rw [ht]; exact hP9, va_K.moved hW.alike hK9, hD9⟩⟩, hS.F ht⟩) hS.2.2 d_Integer_numberOfLeadingZeros_78
          · obtain ⟨x_22, ex_22⟩ : ∃ y : Int32, y = x_19 + (-2) := ⟨_, rfl⟩
            refine lv_iinc (v := x_22) (lv' := [(1, .int x_22), (0, .int x_20)]) hx hb d_Integer_numberOfLeadingZeros_66 hl (k := 1) rfl (by rw [ex_22]; rfl) (by decide) rfl (fun ls hl => ?_)
            replace ex_22 := ex_22.symm
            refine lv_iload_n hx hb d_Integer_numberOfLeadingZeros_69 rfl (lv_at hl 1 rfl) ?_
            refine lv_iconst (v := 2) hx hb d_Integer_numberOfLeadingZeros_70 (by decide) ?_
            refine lv_iushr hx hb d_Integer_numberOfLeadingZeros_71 rfl ?_
            refine lv_topi (fun x_23 ex_23 => ?_)
            replace ex_23 := ex_23.symm
            refine lv_istore_n (lv' := [(0, .int x_23), (1, .int x_22)]) hx hb d_Integer_numberOfLeadingZeros_72 rfl hl (by decide) rfl (fun ls hl => ?_)
            refine lv_iload_n hx hb d_Integer_numberOfLeadingZeros_73 rfl (lv_at hl 1 rfl) ?_
            refine lv_iload_n hx hb d_Integer_numberOfLeadingZeros_74 rfl (lv_at hl 0 rfl) ?_
            refine lv_iconst (v := 1) hx hb d_Integer_numberOfLeadingZeros_75 (by decide) ?_
            refine lv_iushr hx hb d_Integer_numberOfLeadingZeros_76 rfl ?_
            refine lv_isub hx hb d_Integer_numberOfLeadingZeros_77 ?_
            have hP9 := hP.sub (ws' := []) [] rfl
            have hD9 := hD.sub (ws' := []) [] (by decide) rfl
            have hK9 := hK
            exact W.iret (v := x_22 - ((x_23.toUInt32 >>> ((1 : Int32).toUInt32 &&& Int32.toUInt32 31)).toInt32)) hx hb hr (fun t ht hW => ⟨⟨x_22 - ((x_23.toUInt32 >>> ((1 : Int32).toUInt32 &&& Int32.toUInt32 31)).toInt32), (), rfl, (by have h9 : f_Integer_numberOfLeadingZeros i = x_22 - ((x_23.toUInt32 >>> ((1 : Int32).toUInt32 &&& Int32.toUInt32 31)).toInt32) := (by subst ex_13 ex_14 ex_19 ex_20 ex_22 ex_23; exact ((if_pos c_1).trans ((if_pos c_2).trans ((if_neg c_3).trans ((if_neg c_15).trans ((if_neg c_21).trans (rfl))))))); exact h9.symm), ⟨by rw [ht]; exact hP9, va_K.moved hW.alike hK9, hD9⟩⟩, hS.F ht⟩) hS.2.2 d_Integer_numberOfLeadingZeros_78
    · obtain ⟨x_24, ex_24⟩ : ∃ y : Int32, y = 31 + (-16) := ⟨_, rfl⟩
      refine lv_iinc (v := x_24) (lv' := [(1, .int x_24), (0, .int i)]) hx hb d_Integer_numberOfLeadingZeros_25 hl (k := 0) rfl (by rw [ex_24]; rfl) (by decide) rfl (fun ls hl => ?_)
      replace ex_24 := ex_24.symm
      refine lv_iload_n hx hb d_Integer_numberOfLeadingZeros_28 rfl (lv_at hl 1 rfl) ?_
      refine lv_bipush (v := 16) hx hb d_Integer_numberOfLeadingZeros_29 (by decide) ?_
      refine lv_iushr hx hb d_Integer_numberOfLeadingZeros_31 rfl ?_
      refine lv_topi (fun x_25 ex_25 => ?_)
      replace ex_25 := ex_25.symm
      refine lv_istore_n (lv' := [(0, .int x_25), (1, .int x_24)]) hx hb d_Integer_numberOfLeadingZeros_32 rfl hl (by decide) rfl (fun ls hl => ?_)
      refine lv_iload_n hx hb d_Integer_numberOfLeadingZeros_33 rfl (lv_at hl 0 rfl) ?_
      refine lv_sipush (v := 256) hx hb d_Integer_numberOfLeadingZeros_34 (by decide) ?_
      refine lv_icmp_lt (tgt := 48) hx hb d_Integer_numberOfLeadingZeros_37 (by decide) (fun c_26 => ?_) (fun c_26 => ?_)
      · refine lv_iload_n hx hb d_Integer_numberOfLeadingZeros_48 rfl (lv_at hl 0 rfl) ?_
        refine lv_bipush (v := 16) hx hb d_Integer_numberOfLeadingZeros_49 (by decide) ?_
        refine lv_icmp_lt (tgt := 61) hx hb d_Integer_numberOfLeadingZeros_51 (by decide) (fun c_27 => ?_) (fun c_27 => ?_)
        · refine lv_iload_n hx hb d_Integer_numberOfLeadingZeros_61 rfl (lv_at hl 0 rfl) ?_
          refine lv_iconst (v := 4) hx hb d_Integer_numberOfLeadingZeros_62 (by decide) ?_
          refine lv_icmp_lt (tgt := 73) hx hb d_Integer_numberOfLeadingZeros_63 (by decide) (fun c_28 => ?_) (fun c_28 => ?_)
          · refine lv_iload_n hx hb d_Integer_numberOfLeadingZeros_73 rfl (lv_at hl 1 rfl) ?_
            refine lv_iload_n hx hb d_Integer_numberOfLeadingZeros_74 rfl (lv_at hl 0 rfl) ?_
            refine lv_iconst (v := 1) hx hb d_Integer_numberOfLeadingZeros_75 (by decide) ?_
            refine lv_iushr hx hb d_Integer_numberOfLeadingZeros_76 rfl ?_
            refine lv_isub hx hb d_Integer_numberOfLeadingZeros_77 ?_
            have hP9 := hP.sub (ws' := []) [] rfl
            have hD9 := hD.sub (ws' := []) [] (by decide) rfl
            have hK9 := hK
            exact W.iret (v := x_24 - ((x_25.toUInt32 >>> ((1 : Int32).toUInt32 &&& Int32.toUInt32 31)).toInt32)) hx hb hr (fun t ht hW => ⟨⟨x_24 - ((x_25.toUInt32 >>> ((1 : Int32).toUInt32 &&& Int32.toUInt32 31)).toInt32), (), rfl, (by have h9 : f_Integer_numberOfLeadingZeros i = x_24 - ((x_25.toUInt32 >>> ((1 : Int32).toUInt32 &&& Int32.toUInt32 31)).toInt32) := (by subst ex_24 ex_25; exact ((if_pos c_1).trans ((if_neg c_2).trans ((if_pos c_26).trans ((if_pos c_27).trans ((if_pos c_28).trans (rfl))))))); exact h9.symm), ⟨by rw [ht]; exact hP9, va_K.moved hW.alike hK9, hD9⟩⟩, hS.F ht⟩) hS.2.2 d_Integer_numberOfLeadingZeros_78
          · obtain ⟨x_29, ex_29⟩ : ∃ y : Int32, y = x_24 + (-2) := ⟨_, rfl⟩
            refine lv_iinc (v := x_29) (lv' := [(1, .int x_29), (0, .int x_25)]) hx hb d_Integer_numberOfLeadingZeros_66 hl (k := 1) rfl (by rw [ex_29]; rfl) (by decide) rfl (fun ls hl => ?_)
            replace ex_29 := ex_29.symm
            refine lv_iload_n hx hb d_Integer_numberOfLeadingZeros_69 rfl (lv_at hl 1 rfl) ?_
            refine lv_iconst (v := 2) hx hb d_Integer_numberOfLeadingZeros_70 (by decide) ?_
            refine lv_iushr hx hb d_Integer_numberOfLeadingZeros_71 rfl ?_
            refine lv_topi (fun x_30 ex_30 => ?_)
            replace ex_30 := ex_30.symm
            refine lv_istore_n (lv' := [(0, .int x_30), (1, .int x_29)]) hx hb d_Integer_numberOfLeadingZeros_72 rfl hl (by decide) rfl (fun ls hl => ?_)
            refine lv_iload_n hx hb d_Integer_numberOfLeadingZeros_73 rfl (lv_at hl 1 rfl) ?_
            refine lv_iload_n hx hb d_Integer_numberOfLeadingZeros_74 rfl (lv_at hl 0 rfl) ?_
            refine lv_iconst (v := 1) hx hb d_Integer_numberOfLeadingZeros_75 (by decide) ?_
            refine lv_iushr hx hb d_Integer_numberOfLeadingZeros_76 rfl ?_
            refine lv_isub hx hb d_Integer_numberOfLeadingZeros_77 ?_
            have hP9 := hP.sub (ws' := []) [] rfl
            have hD9 := hD.sub (ws' := []) [] (by decide) rfl
            have hK9 := hK
            exact W.iret (v := x_29 - ((x_30.toUInt32 >>> ((1 : Int32).toUInt32 &&& Int32.toUInt32 31)).toInt32)) hx hb hr (fun t ht hW => ⟨⟨x_29 - ((x_30.toUInt32 >>> ((1 : Int32).toUInt32 &&& Int32.toUInt32 31)).toInt32), (), rfl, (by have h9 : f_Integer_numberOfLeadingZeros i = x_29 - ((x_30.toUInt32 >>> ((1 : Int32).toUInt32 &&& Int32.toUInt32 31)).toInt32) := (by subst ex_24 ex_25 ex_29 ex_30; exact ((if_pos c_1).trans ((if_neg c_2).trans ((if_pos c_26).trans ((if_pos c_27).trans ((if_neg c_28).trans (rfl))))))); exact h9.symm), ⟨by rw [ht]; exact hP9, va_K.moved hW.alike hK9, hD9⟩⟩, hS.F ht⟩) hS.2.2 d_Integer_numberOfLeadingZeros_78
        · obtain ⟨x_31, ex_31⟩ : ∃ y : Int32, y = x_24 + (-4) := ⟨_, rfl⟩
          refine lv_iinc (v := x_31) (lv' := [(1, .int x_31), (0, .int x_25)]) hx hb d_Integer_numberOfLeadingZeros_54 hl (k := 1) rfl (by rw [ex_31]; rfl) (by decide) rfl (fun ls hl => ?_)
          replace ex_31 := ex_31.symm
          refine lv_iload_n hx hb d_Integer_numberOfLeadingZeros_57 rfl (lv_at hl 1 rfl) ?_
          refine lv_iconst (v := 4) hx hb d_Integer_numberOfLeadingZeros_58 (by decide) ?_
          refine lv_iushr hx hb d_Integer_numberOfLeadingZeros_59 rfl ?_
          refine lv_topi (fun x_32 ex_32 => ?_)
          replace ex_32 := ex_32.symm
          refine lv_istore_n (lv' := [(0, .int x_32), (1, .int x_31)]) hx hb d_Integer_numberOfLeadingZeros_60 rfl hl (by decide) rfl (fun ls hl => ?_)
          refine lv_iload_n hx hb d_Integer_numberOfLeadingZeros_61 rfl (lv_at hl 0 rfl) ?_
          refine lv_iconst (v := 4) hx hb d_Integer_numberOfLeadingZeros_62 (by decide) ?_
          refine lv_icmp_lt (tgt := 73) hx hb d_Integer_numberOfLeadingZeros_63 (by decide) (fun c_33 => ?_) (fun c_33 => ?_)
          · refine lv_iload_n hx hb d_Integer_numberOfLeadingZeros_73 rfl (lv_at hl 1 rfl) ?_
            refine lv_iload_n hx hb d_Integer_numberOfLeadingZeros_74 rfl (lv_at hl 0 rfl) ?_
            refine lv_iconst (v := 1) hx hb d_Integer_numberOfLeadingZeros_75 (by decide) ?_
            refine lv_iushr hx hb d_Integer_numberOfLeadingZeros_76 rfl ?_
            refine lv_isub hx hb d_Integer_numberOfLeadingZeros_77 ?_
            have hP9 := hP.sub (ws' := []) [] rfl
            have hD9 := hD.sub (ws' := []) [] (by decide) rfl
            have hK9 := hK
            exact W.iret (v := x_31 - ((x_32.toUInt32 >>> ((1 : Int32).toUInt32 &&& Int32.toUInt32 31)).toInt32)) hx hb hr (fun t ht hW => ⟨⟨x_31 - ((x_32.toUInt32 >>> ((1 : Int32).toUInt32 &&& Int32.toUInt32 31)).toInt32), (), rfl, (by have h9 : f_Integer_numberOfLeadingZeros i = x_31 - ((x_32.toUInt32 >>> ((1 : Int32).toUInt32 &&& Int32.toUInt32 31)).toInt32) := (by subst ex_24 ex_25 ex_31 ex_32; exact ((if_pos c_1).trans ((if_neg c_2).trans ((if_pos c_26).trans ((if_neg c_27).trans ((if_pos c_33).trans (rfl))))))); exact h9.symm), ⟨by rw [ht]; exact hP9, va_K.moved hW.alike hK9, hD9⟩⟩, hS.F ht⟩) hS.2.2 d_Integer_numberOfLeadingZeros_78
          · obtain ⟨x_34, ex_34⟩ : ∃ y : Int32, y = x_31 + (-2) := ⟨_, rfl⟩
            refine lv_iinc (v := x_34) (lv' := [(1, .int x_34), (0, .int x_32)]) hx hb d_Integer_numberOfLeadingZeros_66 hl (k := 1) rfl (by rw [ex_34]; rfl) (by decide) rfl (fun ls hl => ?_)
            replace ex_34 := ex_34.symm
            refine lv_iload_n hx hb d_Integer_numberOfLeadingZeros_69 rfl (lv_at hl 1 rfl) ?_
            refine lv_iconst (v := 2) hx hb d_Integer_numberOfLeadingZeros_70 (by decide) ?_
            refine lv_iushr hx hb d_Integer_numberOfLeadingZeros_71 rfl ?_
            refine lv_topi (fun x_35 ex_35 => ?_)
            replace ex_35 := ex_35.symm
            refine lv_istore_n (lv' := [(0, .int x_35), (1, .int x_34)]) hx hb d_Integer_numberOfLeadingZeros_72 rfl hl (by decide) rfl (fun ls hl => ?_)
            refine lv_iload_n hx hb d_Integer_numberOfLeadingZeros_73 rfl (lv_at hl 1 rfl) ?_
            refine lv_iload_n hx hb d_Integer_numberOfLeadingZeros_74 rfl (lv_at hl 0 rfl) ?_
            refine lv_iconst (v := 1) hx hb d_Integer_numberOfLeadingZeros_75 (by decide) ?_
            refine lv_iushr hx hb d_Integer_numberOfLeadingZeros_76 rfl ?_
            refine lv_isub hx hb d_Integer_numberOfLeadingZeros_77 ?_
            have hP9 := hP.sub (ws' := []) [] rfl
            have hD9 := hD.sub (ws' := []) [] (by decide) rfl
            have hK9 := hK
            exact W.iret (v := x_34 - ((x_35.toUInt32 >>> ((1 : Int32).toUInt32 &&& Int32.toUInt32 31)).toInt32)) hx hb hr (fun t ht hW => ⟨⟨x_34 - ((x_35.toUInt32 >>> ((1 : Int32).toUInt32 &&& Int32.toUInt32 31)).toInt32), (), rfl, (by have h9 : f_Integer_numberOfLeadingZeros i = x_34 - ((x_35.toUInt32 >>> ((1 : Int32).toUInt32 &&& Int32.toUInt32 31)).toInt32) := (by subst ex_24 ex_25 ex_31 ex_32 ex_34 ex_35; exact ((if_pos c_1).trans ((if_neg c_2).trans ((if_pos c_26).trans ((if_neg c_27).trans ((if_neg c_33).trans (rfl))))))); exact h9.symm), ⟨by rw [ht]; exact hP9, va_K.moved hW.alike hK9, hD9⟩⟩, hS.F ht⟩) hS.2.2 d_Integer_numberOfLeadingZeros_78
      · obtain ⟨x_36, ex_36⟩ : ∃ y : Int32, y = x_24 + (-8) := ⟨_, rfl⟩
        refine lv_iinc (v := x_36) (lv' := [(1, .int x_36), (0, .int x_25)]) hx hb d_Integer_numberOfLeadingZeros_40 hl (k := 1) rfl (by rw [ex_36]; rfl) (by decide) rfl (fun ls hl => ?_)
        replace ex_36 := ex_36.symm
        refine lv_iload_n hx hb d_Integer_numberOfLeadingZeros_43 rfl (lv_at hl 1 rfl) ?_
        refine lv_bipush (v := 8) hx hb d_Integer_numberOfLeadingZeros_44 (by decide) ?_
        refine lv_iushr hx hb d_Integer_numberOfLeadingZeros_46 rfl ?_
        refine lv_topi (fun x_37 ex_37 => ?_)
        replace ex_37 := ex_37.symm
        refine lv_istore_n (lv' := [(0, .int x_37), (1, .int x_36)]) hx hb d_Integer_numberOfLeadingZeros_47 rfl hl (by decide) rfl (fun ls hl => ?_)
        refine lv_iload_n hx hb d_Integer_numberOfLeadingZeros_48 rfl (lv_at hl 0 rfl) ?_
        refine lv_bipush (v := 16) hx hb d_Integer_numberOfLeadingZeros_49 (by decide) ?_
        refine lv_icmp_lt (tgt := 61) hx hb d_Integer_numberOfLeadingZeros_51 (by decide) (fun c_38 => ?_) (fun c_38 => ?_)
        · refine lv_iload_n hx hb d_Integer_numberOfLeadingZeros_61 rfl (lv_at hl 0 rfl) ?_
          refine lv_iconst (v := 4) hx hb d_Integer_numberOfLeadingZeros_62 (by decide) ?_
          refine lv_icmp_lt (tgt := 73) hx hb d_Integer_numberOfLeadingZeros_63 (by decide) (fun c_39 => ?_) (fun c_39 => ?_)
          · refine lv_iload_n hx hb d_Integer_numberOfLeadingZeros_73 rfl (lv_at hl 1 rfl) ?_
            refine lv_iload_n hx hb d_Integer_numberOfLeadingZeros_74 rfl (lv_at hl 0 rfl) ?_
            refine lv_iconst (v := 1) hx hb d_Integer_numberOfLeadingZeros_75 (by decide) ?_
            refine lv_iushr hx hb d_Integer_numberOfLeadingZeros_76 rfl ?_
            refine lv_isub hx hb d_Integer_numberOfLeadingZeros_77 ?_
            have hP9 := hP.sub (ws' := []) [] rfl
            have hD9 := hD.sub (ws' := []) [] (by decide) rfl
            have hK9 := hK
            exact W.iret (v := x_36 - ((x_37.toUInt32 >>> ((1 : Int32).toUInt32 &&& Int32.toUInt32 31)).toInt32)) hx hb hr (fun t ht hW => ⟨⟨x_36 - ((x_37.toUInt32 >>> ((1 : Int32).toUInt32 &&& Int32.toUInt32 31)).toInt32), (), rfl, (by have h9 : f_Integer_numberOfLeadingZeros i = x_36 - ((x_37.toUInt32 >>> ((1 : Int32).toUInt32 &&& Int32.toUInt32 31)).toInt32) := (by subst ex_24 ex_25 ex_36 ex_37; exact ((if_pos c_1).trans ((if_neg c_2).trans ((if_neg c_26).trans ((if_pos c_38).trans ((if_pos c_39).trans (rfl))))))); exact h9.symm), ⟨by rw [ht]; exact hP9, va_K.moved hW.alike hK9, hD9⟩⟩, hS.F ht⟩) hS.2.2 d_Integer_numberOfLeadingZeros_78
          · obtain ⟨x_40, ex_40⟩ : ∃ y : Int32, y = x_36 + (-2) := ⟨_, rfl⟩
            refine lv_iinc (v := x_40) (lv' := [(1, .int x_40), (0, .int x_37)]) hx hb d_Integer_numberOfLeadingZeros_66 hl (k := 1) rfl (by rw [ex_40]; rfl) (by decide) rfl (fun ls hl => ?_)
            replace ex_40 := ex_40.symm
            refine lv_iload_n hx hb d_Integer_numberOfLeadingZeros_69 rfl (lv_at hl 1 rfl) ?_
            refine lv_iconst (v := 2) hx hb d_Integer_numberOfLeadingZeros_70 (by decide) ?_
            refine lv_iushr hx hb d_Integer_numberOfLeadingZeros_71 rfl ?_
            refine lv_topi (fun x_41 ex_41 => ?_)
            replace ex_41 := ex_41.symm
            refine lv_istore_n (lv' := [(0, .int x_41), (1, .int x_40)]) hx hb d_Integer_numberOfLeadingZeros_72 rfl hl (by decide) rfl (fun ls hl => ?_)
            refine lv_iload_n hx hb d_Integer_numberOfLeadingZeros_73 rfl (lv_at hl 1 rfl) ?_
            refine lv_iload_n hx hb d_Integer_numberOfLeadingZeros_74 rfl (lv_at hl 0 rfl) ?_
            refine lv_iconst (v := 1) hx hb d_Integer_numberOfLeadingZeros_75 (by decide) ?_
            refine lv_iushr hx hb d_Integer_numberOfLeadingZeros_76 rfl ?_
            refine lv_isub hx hb d_Integer_numberOfLeadingZeros_77 ?_
            have hP9 := hP.sub (ws' := []) [] rfl
            have hD9 := hD.sub (ws' := []) [] (by decide) rfl
            have hK9 := hK
            exact W.iret (v := x_40 - ((x_41.toUInt32 >>> ((1 : Int32).toUInt32 &&& Int32.toUInt32 31)).toInt32)) hx hb hr (fun t ht hW => ⟨⟨x_40 - ((x_41.toUInt32 >>> ((1 : Int32).toUInt32 &&& Int32.toUInt32 31)).toInt32), (), rfl, (by have h9 : f_Integer_numberOfLeadingZeros i = x_40 - ((x_41.toUInt32 >>> ((1 : Int32).toUInt32 &&& Int32.toUInt32 31)).toInt32) := (by subst ex_24 ex_25 ex_36 ex_37 ex_40 ex_41; exact ((if_pos c_1).trans ((if_neg c_2).trans ((if_neg c_26).trans ((if_pos c_38).trans ((if_neg c_39).trans (rfl))))))); exact h9.symm), ⟨by rw [ht]; exact hP9, va_K.moved hW.alike hK9, hD9⟩⟩, hS.F ht⟩) hS.2.2 d_Integer_numberOfLeadingZeros_78
        · obtain ⟨x_42, ex_42⟩ : ∃ y : Int32, y = x_36 + (-4) := ⟨_, rfl⟩
          refine lv_iinc (v := x_42) (lv' := [(1, .int x_42), (0, .int x_37)]) hx hb d_Integer_numberOfLeadingZeros_54 hl (k := 1) rfl (by rw [ex_42]; rfl) (by decide) rfl (fun ls hl => ?_)
          replace ex_42 := ex_42.symm
          refine lv_iload_n hx hb d_Integer_numberOfLeadingZeros_57 rfl (lv_at hl 1 rfl) ?_
          refine lv_iconst (v := 4) hx hb d_Integer_numberOfLeadingZeros_58 (by decide) ?_
          refine lv_iushr hx hb d_Integer_numberOfLeadingZeros_59 rfl ?_
          refine lv_topi (fun x_43 ex_43 => ?_)
          replace ex_43 := ex_43.symm
          refine lv_istore_n (lv' := [(0, .int x_43), (1, .int x_42)]) hx hb d_Integer_numberOfLeadingZeros_60 rfl hl (by decide) rfl (fun ls hl => ?_)
          refine lv_iload_n hx hb d_Integer_numberOfLeadingZeros_61 rfl (lv_at hl 0 rfl) ?_
          refine lv_iconst (v := 4) hx hb d_Integer_numberOfLeadingZeros_62 (by decide) ?_
          refine lv_icmp_lt (tgt := 73) hx hb d_Integer_numberOfLeadingZeros_63 (by decide) (fun c_44 => ?_) (fun c_44 => ?_)
          · refine lv_iload_n hx hb d_Integer_numberOfLeadingZeros_73 rfl (lv_at hl 1 rfl) ?_
            refine lv_iload_n hx hb d_Integer_numberOfLeadingZeros_74 rfl (lv_at hl 0 rfl) ?_
            refine lv_iconst (v := 1) hx hb d_Integer_numberOfLeadingZeros_75 (by decide) ?_
            refine lv_iushr hx hb d_Integer_numberOfLeadingZeros_76 rfl ?_
            refine lv_isub hx hb d_Integer_numberOfLeadingZeros_77 ?_
            have hP9 := hP.sub (ws' := []) [] rfl
            have hD9 := hD.sub (ws' := []) [] (by decide) rfl
            have hK9 := hK
            exact W.iret (v := x_42 - ((x_43.toUInt32 >>> ((1 : Int32).toUInt32 &&& Int32.toUInt32 31)).toInt32)) hx hb hr (fun t ht hW => ⟨⟨x_42 - ((x_43.toUInt32 >>> ((1 : Int32).toUInt32 &&& Int32.toUInt32 31)).toInt32), (), rfl, (by have h9 : f_Integer_numberOfLeadingZeros i = x_42 - ((x_43.toUInt32 >>> ((1 : Int32).toUInt32 &&& Int32.toUInt32 31)).toInt32) := (by subst ex_24 ex_25 ex_36 ex_37 ex_42 ex_43; exact ((if_pos c_1).trans ((if_neg c_2).trans ((if_neg c_26).trans ((if_neg c_38).trans ((if_pos c_44).trans (rfl))))))); exact h9.symm), ⟨by rw [ht]; exact hP9, va_K.moved hW.alike hK9, hD9⟩⟩, hS.F ht⟩) hS.2.2 d_Integer_numberOfLeadingZeros_78
          · obtain ⟨x_45, ex_45⟩ : ∃ y : Int32, y = x_42 + (-2) := ⟨_, rfl⟩
            refine lv_iinc (v := x_45) (lv' := [(1, .int x_45), (0, .int x_43)]) hx hb d_Integer_numberOfLeadingZeros_66 hl (k := 1) rfl (by rw [ex_45]; rfl) (by decide) rfl (fun ls hl => ?_)
            replace ex_45 := ex_45.symm
            refine lv_iload_n hx hb d_Integer_numberOfLeadingZeros_69 rfl (lv_at hl 1 rfl) ?_
            refine lv_iconst (v := 2) hx hb d_Integer_numberOfLeadingZeros_70 (by decide) ?_
            refine lv_iushr hx hb d_Integer_numberOfLeadingZeros_71 rfl ?_
            refine lv_topi (fun x_46 ex_46 => ?_)
            replace ex_46 := ex_46.symm
            refine lv_istore_n (lv' := [(0, .int x_46), (1, .int x_45)]) hx hb d_Integer_numberOfLeadingZeros_72 rfl hl (by decide) rfl (fun ls hl => ?_)
            refine lv_iload_n hx hb d_Integer_numberOfLeadingZeros_73 rfl (lv_at hl 1 rfl) ?_
            refine lv_iload_n hx hb d_Integer_numberOfLeadingZeros_74 rfl (lv_at hl 0 rfl) ?_
            refine lv_iconst (v := 1) hx hb d_Integer_numberOfLeadingZeros_75 (by decide) ?_
            refine lv_iushr hx hb d_Integer_numberOfLeadingZeros_76 rfl ?_
            refine lv_isub hx hb d_Integer_numberOfLeadingZeros_77 ?_
            have hP9 := hP.sub (ws' := []) [] rfl
            have hD9 := hD.sub (ws' := []) [] (by decide) rfl
            have hK9 := hK
            exact W.iret (v := x_45 - ((x_46.toUInt32 >>> ((1 : Int32).toUInt32 &&& Int32.toUInt32 31)).toInt32)) hx hb hr (fun t ht hW => ⟨⟨x_45 - ((x_46.toUInt32 >>> ((1 : Int32).toUInt32 &&& Int32.toUInt32 31)).toInt32), (), rfl, (by have h9 : f_Integer_numberOfLeadingZeros i = x_45 - ((x_46.toUInt32 >>> ((1 : Int32).toUInt32 &&& Int32.toUInt32 31)).toInt32) := (by subst ex_24 ex_25 ex_36 ex_37 ex_42 ex_43 ex_45 ex_46; exact ((if_pos c_1).trans ((if_neg c_2).trans ((if_neg c_26).trans ((if_neg c_38).trans ((if_neg c_44).trans (rfl))))))); exact h9.symm), ⟨by rw [ht]; exact hP9, va_K.moved hW.alike hK9, hD9⟩⟩, hS.F ht⟩) hS.2.2 d_Integer_numberOfLeadingZeros_78
  · refine lv_iload_n hx hb d_Integer_numberOfLeadingZeros_4 rfl (lv_at hl 0 rfl) ?_
    refine lv_if_ne (tgt := 13) hx hb d_Integer_numberOfLeadingZeros_5 (by decide) (fun c_47 => ?_) (fun c_47 => ?_)
    · refine lv_iconst (v := 0) hx hb d_Integer_numberOfLeadingZeros_13 (by decide) ?_
      have hP9 := hP.sub (ws' := []) [] rfl
      have hD9 := hD.sub (ws' := []) [] (by decide) rfl
      have hK9 := hK
      exact W.iret (v := 0) hx hb hr (fun t ht hW => ⟨⟨0, (), rfl, (by have h9 : f_Integer_numberOfLeadingZeros i = 0 := (by exact ((if_neg c_1).trans ((if_neg c_47).trans (rfl)))); exact h9.symm), ⟨by rw [ht]; exact hP9, va_K.moved hW.alike hK9, hD9⟩⟩, hS.F ht⟩) hS.2.2 d_Integer_numberOfLeadingZeros_14
    · refine lv_bipush (v := 32) hx hb d_Integer_numberOfLeadingZeros_8 (by decide) ?_
      refine lv_goto (tgt := 14) hx hb d_Integer_numberOfLeadingZeros_10 (by decide) ?_
      have hP9 := hP.sub (ws' := []) [] rfl
      have hD9 := hD.sub (ws' := []) [] (by decide) rfl
      have hK9 := hK
      exact W.iret (v := 32) hx hb hr (fun t ht hW => ⟨⟨32, (), rfl, (by have h9 : f_Integer_numberOfLeadingZeros i = 32 := (by exact ((if_neg c_1).trans ((if_pos c_47).trans (rfl)))); exact h9.symm), ⟨by rw [ht]; exact hP9, va_K.moved hW.alike hK9, hD9⟩⟩, hS.F ht⟩) hS.2.2 d_Integer_numberOfLeadingZeros_14
def f_Long_numberOfLeadingZeros (i : Int64) : Int32 := let x_1 := ((i.toUInt64 >>> ((32 : Int32).toInt64.toUInt64 &&& Int64.toUInt64 63)).toInt64).toInt32; if x_1 = 0 then (let r_4 := f_Integer_numberOfLeadingZeros i.toInt32; 32 + r_4) else (let r_3 := f_Integer_numberOfLeadingZeros x_1; r_3)
set_option maxHeartbeats 4000000 in
set_option maxRecDepth 100000 in
theorem c_Long_numberOfLeadingZeros (l : Launch) (dC : Nat → ClassId) (dI : Nat → Nat → Nat) (cI cL : ClassId)  (sz : Nat)  (i : Int64)  : Met l y_Long_numberOfLeadingZeros w_Long_numberOfLeadingZeros ({ frames := 1, cells := 0, slots := 0, locals := 21 }) (va_Pc [.long i] (fun U => U.heap.size = sz ∧ va_P (dC, dI) classes [] U.heap ∧ va_K (dC, dI) classes [(cI, .int), (cL, .long)] U ∧ va_D (fun _ => True) [])) (va_Qi (fun (r : Int32) (u : Unit) => r = f_Long_numberOfLeadingZeros i) (fun (u : Unit) (t : State) => va_P (dC, dI) classes [] t.heap ∧ va_K (dC, dI) classes [(cI, .int), (cL, .long)] t ∧ va_D (va_A [] sz) []) (va_A [] sz)) 0 0 (va_A [] sz) := by
  refine Met.ofW (cc := b_Long_numberOfLeadingZeros) (maxL := 3) (ret := (some .int)) (by decide) rfl ?_
  intro p e s m args below meth c s₁ B hml hv
  obtain ⟨rfl, hsz, hP, hK, hD0⟩ := hv
  have hx := B.exec
  have hb := B.bytes
  have hr := B.returns
  have hts := atoms_spec (ws := w_Long_numberOfLeadingZeros) B.pre
  have hw : ∀ w ∈ WA, w.before _ s = true := fun w h => hts w (List.mem_cons_of_mem _ h)
  have hown : s.vm.findClass R_Long = some m.cls := findClass_of_methodNamed B.named
  have hlocks := B.notSynchronized
  subst hsz
  have hD := hD0.self (sz := s.heap.size)
  generalize hAe : va_A [] s.heap.size = A at hD ⊢
  have hA : ∀ q : Nat, s.heap.size ≤ q → A q := fun q h => by rw [← hAe]; exact Or.inr h
  have hS : va_S A s.heap s.heap [] := va_S.rf
  have hP : va_P (dC, dI) classes [] s.heap := hP
  have hl := lv_entry ([.long i]) (n := 3) (Nat.le_of_ble_eq_true rfl)
  rw [lg_entry_eq]
  generalize (lg_sl ([.long i]) ++ List.replicate (3 - (lg_sl ([.long i])).length) Slot.unset).toArray = ls at hl ⊢
  have hl : lv_has ls 3 [(0, .long i)] := hl
  refine lv_lload_n hx hb d_Long_numberOfLeadingZeros_0 rfl (lv_at hl 0 rfl) ?_
  refine lv_bipush (v := 32) hx hb d_Long_numberOfLeadingZeros_1 (by decide) ?_
  refine lv_lushr hx hb d_Long_numberOfLeadingZeros_3 rfl ?_
  refine lv_l2i hx hb d_Long_numberOfLeadingZeros_4 rfl ?_
  refine lv_topi (fun x_1 ex_1 => ?_)
  replace ex_1 := ex_1.symm
  refine lv_istore_n (lv' := [(2, .int x_1), (0, .long i)]) hx hb d_Long_numberOfLeadingZeros_5 rfl hl (by decide) rfl (fun ls hl => ?_)
  refine lv_iload_n hx hb d_Long_numberOfLeadingZeros_6 rfl (lv_at hl 0 rfl) ?_
  refine lv_if_ne (tgt := 21) hx hb d_Long_numberOfLeadingZeros_7 (by decide) (fun c_2 => ?_) (fun c_2 => ?_)
  · refine lv_iload_n hx hb d_Long_numberOfLeadingZeros_21 rfl (lv_at hl 0 rfl) ?_
    have hPc := hP.sub (ws' := []) [] rfl
    have hDc := hD.sub (ws' := []) [] (by decide) rfl
    have hFc := va_free (wc := []) hD hS hA [] rfl
    refine va_calli (va_runS (As := [.int x_1]) (rest := []) ⟨hx, hb, hml, hown, hw⟩ (c_Integer_numberOfLeadingZeros l dC dI cI cL s.heap.size x_1) (va_cwS 1 hw (gd_S m_453 m_216 m_44 m_217) rfl rfl rfl (by decide +kernel) ⟨Nat.le_of_ble_eq_true rfl, Nat.le_of_ble_eq_true rfl⟩) ⟨fun a U g mk q => by obtain ⟨q0, q1, qP, qK, qD⟩ := q; exact ⟨q0, q1, qP, va_K.moved (u := U) (U := U.calling g mk a) (Vm.Alike.refl U.vm) qK, qD⟩, fun U hU hW => ⟨rfl, by rw [hU], by rw [hU]; exact hPc, va_K.moved hW.alike hK, hDc.weaken (fun _ _ _ _ => trivial)⟩⟩ rfl rfl hl.1 rfl (lv_room (Nat.le_of_ble_eq_true rfl)) d_Long_numberOfLeadingZeros_22 ⟨Nat.le_of_ble_eq_true rfl, Nat.le_of_ble_eq_true rfl⟩) hS (fun q _ h => hFc q h) hFc (fun r_3 u_3 t H1 locs ht hvm hq3 hB hz1 hk1 hS => ?_)
    obtain ⟨hP1, hK1, hD1⟩ := hB
    rw [ht] at hP1
    obtain ⟨hP, hD⟩ := va_join (wr := []) (w1 := []) hP hD [] [] rfl rfl (by decide) (by decide) hk1 hFc hP1 hD1
    generalize H1 = H at hP hS ht ⊢
    have hP : va_P (dC, dI) classes [] H := hP
    have hD : va_D A [] := hD
    have er_3 : f_Integer_numberOfLeadingZeros x_1 = r_3 := hq3.symm
    have hP9 := hP.sub (ws' := []) [] rfl
    have hD9 := hD.sub (ws' := []) [] (by decide) rfl
    have hK9 := hK
    exact W.iret (v := r_3) hx hb hr (fun t ht hW => ⟨⟨r_3, (), rfl, (by have h9 : f_Long_numberOfLeadingZeros i = r_3 := (by subst ex_1 er_3; exact ((if_neg c_2).trans (rfl))); exact h9.symm), ⟨by rw [ht]; exact hP9, va_K.moved hW.alike hK9, hD9⟩⟩, hS.F ht⟩) hS.2.2 d_Long_numberOfLeadingZeros_25
  · refine lv_bipush (v := 32) hx hb d_Long_numberOfLeadingZeros_10 (by decide) ?_
    refine lv_lload_n hx hb d_Long_numberOfLeadingZeros_12 rfl (lv_at hl 1 rfl) ?_
    refine lv_l2i hx hb d_Long_numberOfLeadingZeros_13 rfl ?_
    have hPc := hP.sub (ws' := []) [] rfl
    have hDc := hD.sub (ws' := []) [] (by decide) rfl
    have hFc := va_free (wc := []) hD hS hA [] rfl
    refine va_calli (va_runS (As := [.int i.toInt32]) (rest := [.int 32]) ⟨hx, hb, hml, hown, hw⟩ (c_Integer_numberOfLeadingZeros l dC dI cI cL s.heap.size i.toInt32) (va_cwS 1 hw (gd_S m_453 m_216 m_44 m_217) rfl rfl rfl (by decide +kernel) ⟨Nat.le_of_ble_eq_true rfl, Nat.le_of_ble_eq_true rfl⟩) ⟨fun a U g mk q => by obtain ⟨q0, q1, qP, qK, qD⟩ := q; exact ⟨q0, q1, qP, va_K.moved (u := U) (U := U.calling g mk a) (Vm.Alike.refl U.vm) qK, qD⟩, fun U hU hW => ⟨rfl, by rw [hU], by rw [hU]; exact hPc, va_K.moved hW.alike hK, hDc.weaken (fun _ _ _ _ => trivial)⟩⟩ rfl rfl hl.1 rfl (lv_room (Nat.le_of_ble_eq_true rfl)) d_Long_numberOfLeadingZeros_14 ⟨Nat.le_of_ble_eq_true rfl, Nat.le_of_ble_eq_true rfl⟩) hS (fun q _ h => hFc q h) hFc (fun r_4 u_4 t H1 locs ht hvm hq4 hB hz1 hk1 hS => ?_)
    obtain ⟨hP1, hK1, hD1⟩ := hB
    rw [ht] at hP1
    obtain ⟨hP, hD⟩ := va_join (wr := []) (w1 := []) hP hD [] [] rfl rfl (by decide) (by decide) hk1 hFc hP1 hD1
    generalize H1 = H at hP hS ht ⊢
    have hP : va_P (dC, dI) classes [] H := hP
    have hD : va_D A [] := hD
    have er_4 : f_Integer_numberOfLeadingZeros i.toInt32 = r_4 := hq4.symm
    refine lv_iadd hx hb d_Long_numberOfLeadingZeros_17 ?_
    refine lv_goto (tgt := 25) hx hb d_Long_numberOfLeadingZeros_18 (by decide) ?_
    have hP9 := hP.sub (ws' := []) [] rfl
    have hD9 := hD.sub (ws' := []) [] (by decide) rfl
    have hK9 := hK
    exact W.iret (v := 32 + r_4) hx hb hr (fun t ht hW => ⟨⟨32 + r_4, (), rfl, (by have h9 : f_Long_numberOfLeadingZeros i = 32 + r_4 := (by subst ex_1 er_4; exact ((if_pos c_2).trans (rfl))); exact h9.symm), ⟨by rw [ht]; exact hP9, va_K.moved hW.alike hK9, hD9⟩⟩, hS.F ht⟩) hS.2.2 d_Long_numberOfLeadingZeros_25
def f_Long_bitCount (i : Int64) : Int32 := let x_1 := i - (((i.toUInt64 >>> ((1 : Int32).toInt64.toUInt64 &&& Int64.toUInt64 63)).toInt64) &&& 6148914691236517205); let x_2 := (x_1 &&& 3689348814741910323) + (((x_1.toUInt64 >>> ((2 : Int32).toInt64.toUInt64 &&& Int64.toUInt64 63)).toInt64) &&& 3689348814741910323); let x_3 := (x_2 + ((x_2.toUInt64 >>> ((4 : Int32).toInt64.toUInt64 &&& Int64.toUInt64 63)).toInt64)) &&& 1085102592571150095; let x_4 := x_3 + ((x_3.toUInt64 >>> ((8 : Int32).toInt64.toUInt64 &&& Int64.toUInt64 63)).toInt64); let x_5 := x_4 + ((x_4.toUInt64 >>> ((16 : Int32).toInt64.toUInt64 &&& Int64.toUInt64 63)).toInt64); let x_6 := x_5 + ((x_5.toUInt64 >>> ((32 : Int32).toInt64.toUInt64 &&& Int64.toUInt64 63)).toInt64); x_6.toInt32 &&& 127
set_option maxHeartbeats 4000000 in
set_option maxRecDepth 100000 in
theorem c_Long_bitCount (l : Launch) (dC : Nat → ClassId) (dI : Nat → Nat → Nat) (cI cL : ClassId)  (sz : Nat)  (i : Int64)  : Met l y_Long_bitCount w_Long_bitCount ({ frames := 0, cells := 0, slots := 0, locals := 0 }) (va_Pc [.long i] (fun U => U.heap.size = sz ∧ va_P (dC, dI) classes [] U.heap ∧ va_K (dC, dI) classes [(cI, .int), (cL, .long)] U ∧ va_D (fun _ => True) [])) (va_Qi (fun (r : Int32) (u : Unit) => r = f_Long_bitCount i) (fun (u : Unit) (t : State) => va_P (dC, dI) classes [] t.heap ∧ va_K (dC, dI) classes [(cI, .int), (cL, .long)] t ∧ va_D (va_A [] sz) []) (va_A [] sz)) 0 0 (va_A [] sz) := by
  refine Met.ofW (cc := b_Long_bitCount) (maxL := 2) (ret := (some .int)) (by decide) rfl ?_
  intro p e s m args below meth c s₁ B hml hv
  obtain ⟨rfl, hsz, hP, hK, hD0⟩ := hv
  have hx := B.exec
  have hb := B.bytes
  have hr := B.returns
  have hts := atoms_spec (ws := w_Long_bitCount) B.pre
  have hw : ∀ w ∈ WA, w.before _ s = true := fun w h => hts w (List.mem_cons_of_mem _ h)
  have hown : s.vm.findClass R_Long = some m.cls := findClass_of_methodNamed B.named
  have hlocks := B.notSynchronized
  subst hsz
  have hD := hD0.self (sz := s.heap.size)
  generalize hAe : va_A [] s.heap.size = A at hD ⊢
  have hA : ∀ q : Nat, s.heap.size ≤ q → A q := fun q h => by rw [← hAe]; exact Or.inr h
  have hS : va_S A s.heap s.heap [] := va_S.rf
  have hP : va_P (dC, dI) classes [] s.heap := hP
  have hl := lv_entry ([.long i]) (n := 2) (Nat.le_of_ble_eq_true rfl)
  rw [lg_entry_eq]
  generalize (lg_sl ([.long i]) ++ List.replicate (2 - (lg_sl ([.long i])).length) Slot.unset).toArray = ls at hl ⊢
  have hl : lv_has ls 2 [(0, .long i)] := hl
  refine lv_lload_n hx hb d_Long_bitCount_0 rfl (lv_at hl 0 rfl) ?_
  refine lv_lload_n hx hb d_Long_bitCount_1 rfl (lv_at hl 0 rfl) ?_
  refine lv_iconst (v := 1) hx hb d_Long_bitCount_2 (by decide) ?_
  refine lv_lushr hx hb d_Long_bitCount_3 rfl ?_
  refine lv_ldc2 (v := 6148914691236517205) hx hb hown (hw _ m_447) d_Long_bitCount_4 ?_
  refine lv_land hx hb d_Long_bitCount_7 ?_
  refine lv_lsub hx hb d_Long_bitCount_8 ?_
  refine lv_topl (fun x_1 ex_1 => ?_)
  replace ex_1 := ex_1.symm
  refine lv_lstore_n (lv' := [(0, .long x_1)]) hx hb d_Long_bitCount_9 rfl hl (by decide) rfl (fun ls hl => ?_)
  refine lv_lload_n hx hb d_Long_bitCount_10 rfl (lv_at hl 0 rfl) ?_
  refine lv_ldc2 (v := 3689348814741910323) hx hb hown (hw _ m_448) d_Long_bitCount_11 ?_
  refine lv_land hx hb d_Long_bitCount_14 ?_
  refine lv_lload_n hx hb d_Long_bitCount_15 rfl (lv_at hl 0 rfl) ?_
  refine lv_iconst (v := 2) hx hb d_Long_bitCount_16 (by decide) ?_
  refine lv_lushr hx hb d_Long_bitCount_17 rfl ?_
  refine lv_ldc2 (v := 3689348814741910323) hx hb hown (hw _ m_448) d_Long_bitCount_18 ?_
  refine lv_land hx hb d_Long_bitCount_21 ?_
  refine lv_ladd hx hb d_Long_bitCount_22 ?_
  refine lv_topl (fun x_2 ex_2 => ?_)
  replace ex_2 := ex_2.symm
  refine lv_lstore_n (lv' := [(0, .long x_2)]) hx hb d_Long_bitCount_23 rfl hl (by decide) rfl (fun ls hl => ?_)
  refine lv_lload_n hx hb d_Long_bitCount_24 rfl (lv_at hl 0 rfl) ?_
  refine lv_lload_n hx hb d_Long_bitCount_25 rfl (lv_at hl 0 rfl) ?_
  refine lv_iconst (v := 4) hx hb d_Long_bitCount_26 (by decide) ?_
  refine lv_lushr hx hb d_Long_bitCount_27 rfl ?_
  refine lv_ladd hx hb d_Long_bitCount_28 ?_
  refine lv_ldc2 (v := 1085102592571150095) hx hb hown (hw _ m_449) d_Long_bitCount_29 ?_
  refine lv_land hx hb d_Long_bitCount_32 ?_
  refine lv_topl (fun x_3 ex_3 => ?_)
  replace ex_3 := ex_3.symm
  refine lv_lstore_n (lv' := [(0, .long x_3)]) hx hb d_Long_bitCount_33 rfl hl (by decide) rfl (fun ls hl => ?_)
  refine lv_lload_n hx hb d_Long_bitCount_34 rfl (lv_at hl 0 rfl) ?_
  refine lv_lload_n hx hb d_Long_bitCount_35 rfl (lv_at hl 0 rfl) ?_
  refine lv_bipush (v := 8) hx hb d_Long_bitCount_36 (by decide) ?_
  refine lv_lushr hx hb d_Long_bitCount_38 rfl ?_
  refine lv_ladd hx hb d_Long_bitCount_39 ?_
  refine lv_topl (fun x_4 ex_4 => ?_)
  replace ex_4 := ex_4.symm
  refine lv_lstore_n (lv' := [(0, .long x_4)]) hx hb d_Long_bitCount_40 rfl hl (by decide) rfl (fun ls hl => ?_)
  refine lv_lload_n hx hb d_Long_bitCount_41 rfl (lv_at hl 0 rfl) ?_
  refine lv_lload_n hx hb d_Long_bitCount_42 rfl (lv_at hl 0 rfl) ?_
  refine lv_bipush (v := 16) hx hb d_Long_bitCount_43 (by decide) ?_
  refine lv_lushr hx hb d_Long_bitCount_45 rfl ?_
  refine lv_ladd hx hb d_Long_bitCount_46 ?_
  refine lv_topl (fun x_5 ex_5 => ?_)
  replace ex_5 := ex_5.symm
  refine lv_lstore_n (lv' := [(0, .long x_5)]) hx hb d_Long_bitCount_47 rfl hl (by decide) rfl (fun ls hl => ?_)
  refine lv_lload_n hx hb d_Long_bitCount_48 rfl (lv_at hl 0 rfl) ?_
  refine lv_lload_n hx hb d_Long_bitCount_49 rfl (lv_at hl 0 rfl) ?_
  refine lv_bipush (v := 32) hx hb d_Long_bitCount_50 (by decide) ?_
  refine lv_lushr hx hb d_Long_bitCount_52 rfl ?_
  refine lv_ladd hx hb d_Long_bitCount_53 ?_
  refine lv_topl (fun x_6 ex_6 => ?_)
  replace ex_6 := ex_6.symm
  refine lv_lstore_n (lv' := [(0, .long x_6)]) hx hb d_Long_bitCount_54 rfl hl (by decide) rfl (fun ls hl => ?_)
  refine lv_lload_n hx hb d_Long_bitCount_55 rfl (lv_at hl 0 rfl) ?_
  refine lv_l2i hx hb d_Long_bitCount_56 rfl ?_
  refine lv_bipush (v := 127) hx hb d_Long_bitCount_57 (by decide) ?_
  refine lv_iand hx hb d_Long_bitCount_59 ?_
  have hP9 := hP.sub (ws' := []) [] rfl
  have hD9 := hD.sub (ws' := []) [] (by decide) rfl
  have hK9 := hK
  exact W.iret (v := x_6.toInt32 &&& 127) hx hb hr (fun t ht hW => ⟨⟨x_6.toInt32 &&& 127, (), rfl, (by have h9 : f_Long_bitCount i = x_6.toInt32 &&& 127 := (by subst ex_1 ex_2 ex_3 ex_4 ex_5 ex_6; exact (rfl)); exact h9.symm), ⟨by rw [ht]; exact hP9, va_K.moved hW.alike hK9, hD9⟩⟩, hS.F ht⟩) hS.2.2 d_Long_bitCount_60
def l_Arrays_fill_6 (pn : Nat) (f : Nat → Int64) (x : Int64) : Nat → (Nat → Int64) → Int32 → (Nat → Int64)
  | 0, _, _ => default
  | n6 + 1, g, k => if (nI pn) ≤ k then (g) else (let g_2 := vp_updL g k.toNatClampNeg x; let x_3 := k + 1; l_Arrays_fill_6 pn f x n6 g_2 x_3)
def f_Arrays_fill (pn : Nat) (f : Nat → Int64) (x : Int64) : (Nat → Int64) := l_Arrays_fill_6 pn f x (((nI pn).toInt - Int32.toInt (0 : Int32)).toNat + 1) f (0 : Int32)
set_option maxHeartbeats 4000000 in
set_option maxRecDepth 100000 in
theorem c_Arrays_fill (l : Launch) (dC : Nat → ClassId) (dI : Nat → Nat → Nat) (cI cL : ClassId) (a : Nat) (pn : Nat) (sz : Nat) (f : Nat → Int64) (x : Int64) (hpn : pn < 2147483648) : Met l y_Arrays_fill w_Arrays_fill ({ frames := 0, cells := 0, slots := 0, locals := 0 }) (va_Pc [.ref a, .long x] (fun U => U.heap.size = sz ∧ va_P (dC, dI) classes [(a, .inl (cL, pn, .inr (.inl f)))] U.heap ∧ va_K (dC, dI) classes [(cI, .int), (cL, .long)] U ∧ va_D (fun _ => True) [(a, .inl (cL, pn, .inr (.inl f)))])) (va_Qv (fun (u : (Nat → Int64)) => u = f_Arrays_fill pn f x) (fun (u : (Nat → Int64)) (t : State) => va_P (dC, dI) classes [(a, .inl (cL, pn, .inr (.inl u)))] t.heap ∧ va_K (dC, dI) classes [(cI, .int), (cL, .long)] t ∧ va_D (va_A [(a, .inl (cL, pn, .inr (.inl f)))] sz) [(a, .inl (cL, pn, .inr (.inl u)))]) (va_A [(a, .inl (cL, pn, .inr (.inl f)))] sz)) 0 0 (va_A [(a, .inl (cL, pn, .inr (.inl f)))] sz) := by
  refine Met.ofW (cc := b_Arrays_fill) (maxL := 5) (ret := none) (by decide) rfl ?_
  intro p e s m args below meth c s₁ B hml hv
  obtain ⟨rfl, hsz, hP, hK, hD0⟩ := hv
  have hx := B.exec
  have hb := B.bytes
  have hr := B.returns
  have hts := atoms_spec (ws := w_Arrays_fill) B.pre
  have hw : ∀ w ∈ WA, w.before _ s = true := fun w h => hts w (List.mem_cons_of_mem _ h)
  have hown : s.vm.findClass R_Arrays = some m.cls := findClass_of_methodNamed B.named
  have hlocks := B.notSynchronized
  subst hsz
  have hD := hD0.self (sz := s.heap.size)
  generalize hAe : va_A [(a, .inl (cL, pn, .inr (.inl f)))] s.heap.size = A at hD ⊢
  have hA : ∀ q : Nat, s.heap.size ≤ q → A q := fun q h => by rw [← hAe]; exact Or.inr h
  have hS : va_S A s.heap s.heap [] := va_S.rf
  have hP : va_P (dC, dI) classes [(a, .inl (cL, pn, .inr (.inl f)))] s.heap := hP
  have hl := lv_entry ([.ref a, .long x]) (n := 5) (Nat.le_of_ble_eq_true rfl)
  rw [lg_entry_eq]
  generalize (lg_sl ([.ref a, .long x]) ++ List.replicate (5 - (lg_sl ([.ref a, .long x])).length) Slot.unset).toArray = ls at hl ⊢
  have hl : lv_has ls 5 [(0, .ref a), (1, .long x)] := hl
  refine lv_iconst (v := 0) hx hb d_Arrays_fill_0 (by decide) ?_
  refine lv_istore_n (lv' := [(3, .int 0), (0, .ref a), (1, .long x)]) hx hb d_Arrays_fill_1 rfl hl (by decide) rfl (fun ls hl => ?_)
  refine lv_aload_n hx hb d_Arrays_fill_2 rfl (lv_at hl 1 rfl) ?_
  refine va_alen (v := nI pn) hx hb hK hP 0 1 rfl rfl rfl d_Arrays_fill_3 ?_
  refine lv_istore (lv' := [(4, .int (nI pn)), (3, .int 0), (0, .ref a), (1, .long x)]) hx hb d_Arrays_fill_4 hl (by decide) rfl (fun ls hl => ?_)
  have hF9 : f_Arrays_fill pn f x = l_Arrays_fill_6 pn f x (((nI pn).toInt - Int32.toInt (0 : Int32)).toNat + 1) f (0 : Int32) := (by exact (rfl))
  have hI9 : ¬ (0 : Int32) < 0 := (by decide)
  have hP9 := hP.sub (ws' := [(a, .inl (cL, pn, .inr (.inl f)))]) [0] rfl
  have hD9 := hD.sub (ws' := [(a, .inl (cL, pn, .inr (.inl f)))]) [0] (by decide) rfl
  have hl9 := lv_sub (l' := [(4, .int (nI pn)), (3, .int 0), (0, .ref a), (1, .long x)]) hl [0, 1, 2, 3] rfl
  refine lp_n (pc := 6) (σ := (Nat → Int64) × Int32) (I := fun n v H locs ls => ((nI pn).toInt - Int32.toInt v.2).toNat < n ∧ f_Arrays_fill pn f x = l_Arrays_fill_6 pn f x n v.1 v.2 ∧ (¬ v.2 < 0) ∧ va_P (dC, dI) classes [(a, .inl (cL, pn, .inr (.inl v.1)))] H ∧ va_D A [(a, .inl (cL, pn, .inr (.inl v.1)))] ∧ va_S A s.heap H locs ∧ lv_has ls 5 [(4, .int (nI pn)), (3, .int v.2), (0, .ref a), (1, .long x)]) (fun v H locs ls h => absurd h.1 (Nat.not_lt_zero _)) ?_ (((nI pn).toInt - Int32.toInt (0 : Int32)).toNat + 1) (f, (0 : Int32)) _ _ _ ⟨Nat.lt_succ_self _, hF9, hI9, hP9, hD9, hS, hl9⟩
  intro n6 ih6 v H locs ls hI
  obtain ⟨g, k⟩ := v
  obtain ⟨hmu6, hF6, hinv, hP, hD, hS, hl⟩ := hI
  have hmu6 : ((nI pn).toInt - Int32.toInt k).toNat < n6 + 1 := hmu6
  have hF6 : f_Arrays_fill pn f x = l_Arrays_fill_6 pn f x (n6 + 1) g k := hF6
  have hinv : ¬ k < 0 := hinv
  have hP : va_P (dC, dI) classes [(a, .inl (cL, pn, .inr (.inl g)))] H := hP
  have hD : va_D A [(a, .inl (cL, pn, .inr (.inl g)))] := hD
  have hl : lv_has ls 5 [(4, .int (nI pn)), (3, .int k), (0, .ref a), (1, .long x)] := hl
  refine lv_iload_n hx hb d_Arrays_fill_6 rfl (lv_at hl 1 rfl) ?_
  refine lv_iload hx hb d_Arrays_fill_7 (lv_at hl 0 rfl) ?_
  refine lv_icmp_ge (tgt := 22) hx hb d_Arrays_fill_9 (by decide) (fun c_1 => ?_) (fun c_1 => ?_)
  · have hP9 := hP.sub (ws' := [(a, .inl (cL, pn, .inr (.inl g)))]) [0] rfl
    have hD9 := hD.sub (ws' := [(a, .inl (cL, pn, .inr (.inl g)))]) [0] (by decide) rfl
    have hK9 := hK
    exact W.vret hx hb hr (fun t ht hW => ⟨⟨g, rfl, (by have h9 : f_Arrays_fill pn f x = g := (by exact (hF6.trans ((if_pos c_1).trans (rfl)))); exact h9.symm), ⟨by rw [ht]; exact hP9, va_K.moved hW.alike hK9, hD9⟩⟩, hS.F ht⟩) hS.2.2 d_Arrays_fill_22
  · refine lv_aload_n hx hb d_Arrays_fill_12 rfl (lv_at hl 2 rfl) ?_
    refine lv_iload_n hx hb d_Arrays_fill_13 rfl (lv_at hl 1 rfl) ?_
    refine lv_lload_n hx hb d_Arrays_fill_14 rfl (lv_at hl 3 rfl) ?_
    refine va_last hx hb hK hP hD hS 0 1 rfl rfl (ix_b hpn hinv c_1) d_Arrays_fill_15 (fun H locs hP hD hS => ?_)
    obtain ⟨g_2, eg_2⟩ : ∃ y : Nat → Int64, y = vp_updL g k.toNatClampNeg x := ⟨_, rfl⟩
    rw [← eg_2] at hP hD
    replace eg_2 := eg_2.symm
    have hP : va_P (dC, dI) classes [(a, .inl (cL, pn, .inr (.inl g_2)))] H := hP
    have hD : va_D A [(a, .inl (cL, pn, .inr (.inl g_2)))] := hD
    obtain ⟨x_3, ex_3⟩ : ∃ y : Int32, y = k + 1 := ⟨_, rfl⟩
    refine lv_iinc (v := x_3) (lv' := [(3, .int x_3), (4, .int (nI pn)), (0, .ref a), (1, .long x)]) hx hb d_Arrays_fill_16 hl (k := 1) rfl (by rw [ex_3]; rfl) (by decide) rfl (fun ls hl => ?_)
    replace ex_3 := ex_3.symm
    refine lv_goto (tgt := 6) hx hb d_Arrays_fill_19 (by decide) ?_
    have hF9 : f_Arrays_fill pn f x = l_Arrays_fill_6 pn f x n6 g_2 x_3 := (by subst eg_2 ex_3; exact (hF6.trans ((if_neg c_1).trans (rfl))))
    have hI9 : ¬ x_3 < 0 := (by subst eg_2 ex_3; exact nn_s hpn hinv c_1)
    have hP9 := hP.sub (ws' := [(a, .inl (cL, pn, .inr (.inl g_2)))]) [0] rfl
    have hD9 := hD.sub (ws' := [(a, .inl (cL, pn, .inr (.inl g_2)))]) [0] (by decide) rfl
    have hl9 := lv_sub (l' := [(4, .int (nI pn)), (3, .int x_3), (0, .ref a), (1, .long x)]) hl [1, 0, 2, 3] rfl
    have hm9 : ((nI pn).toInt - Int32.toInt x_3).toNat < ((nI pn).toInt - Int32.toInt k).toNat := (by subst eg_2 ex_3; exact mu_b c_1)
    exact ih6 (g_2, x_3) _ _ _ ⟨Nat.lt_of_lt_of_le hm9 (Nat.le_of_lt_succ hmu6), hF9, hI9, hP9, hD9, hS, hl9⟩
