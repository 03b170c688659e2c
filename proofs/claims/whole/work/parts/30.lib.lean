/-! rows for the reference's output and input -/
theorem ti_c (n : Nat) (h : n < 2147483648 := by decide) : (nI n).toInt = n := nI_toInt h
theorem t8 : (8 : Int32).toInt = 8 := rfl
theorem t7 : (7 : Int32).toInt = 7 := rfl
theorem t524 : (524288 : Int32).toInt = 524288 := rfl
theorem t65 : (65536 : Int32).toInt = 65536 := rfl
theorem ti_div8 {x : Int32} (h : 0 ≤ x.toInt) : (x / 8).toInt = x.toInt / 8 := by
  obtain ⟨n, hn, rfl, e⟩ := ti_nn h
  rw [show (8 : Int32) = nI 8 from rfl, pk_div hn (by decide) (by decide), e, nI_toInt (by omega)]; omega
theorem ti_mod8 {x : Int32} (h : 0 ≤ x.toInt) : (x - x / 8 * 8).toInt = x.toInt % 8 := by
  obtain ⟨n, hn, rfl, e⟩ := ti_nn h
  rw [show (8 : Int32) = nI 8 from rfl, pk_rem hn (by decide) (by decide), e, nI_toInt (by omega)]; omega
theorem wd_end {nx : Int32} {nex : Nat → Bool} (h : 0 ≤ nx.toInt ∧ nx.toInt ≤ 129969) : (f_Model_word nx nex 4097).1.toInt = nx.toInt + 12 := by
  obtain ⟨b, hb, rfl, eb⟩ := ti_nn h.1
  rw [show (4097 : Int32) = nI 4097 from rfl, mw_a (by decide) (by decide) (by omega)]
  show (nI (b + (wl 4097).length)).toInt = _
  rw [eb, wl_len, show (4097 : Nat).log2 = 12 by decide +kernel, nI_toInt (n := b + 12) (by omega)]; omega
theorem lc_ge {x : Int64} (h : ¬ (lg_cmp x 0) < 0) : 0 ≤ x.toInt := by
  have := Int64.le_iff_toInt_le.mp ((lg_cmp_ge x 0).mp (Int32.not_lt.mp h))
  simpa using this
theorem i64_of (x : Int32) : x.toInt64.toInt = x.toInt := Int32.toInt_toInt64 x
theorem lc_lt {x y : Int64} (h : ¬ 0 ≤ (lg_cmp x y)) : x.toInt < y.toInt := Int64.lt_iff_toInt_lt.mp (Int64.not_le.mp (fun q => h ((lg_cmp_ge x y).mpr q)))
theorem ix_bo {x : Int64} {bt : Int32} (hb : bt.toInt ≤ 524288) (h1 : ¬ (lg_cmp x 0) < 0) (h2 : ¬ 0 ≤ (lg_cmp x bt.toInt64)) : vp_in x.toInt32 524288 := by
  have a := lc_ge h1
  have b := lc_lt h2
  rw [i64_of] at b
  have e : x.toInt32.toInt = x.toInt := by
    rw [Int64.toInt_toInt32, Int.bmod_def]; omega
  exact ti_in (by omega) (by omega)
