/-! rows for the reference's reading -/
theorem bo_f {bt : Int32} (h : 0 ≤ bt.toInt ∧ bt.toInt ≤ 524288) : (f_Model_bytesOut bt).toInt = (bt.toInt + 7) / 8 := by
  unfold f_Model_bytesOut
  have e : (bt + 7).toInt = bt.toInt + 7 := by rw [ti_add (by rw [t7]; omega) (by rw [t7]; omega), t7]
  rw [ti_div8 (by omega), e]
theorem ne8 {x : Int32} (h0 : 0 ≤ x.toInt) (h : ¬ (x - x / 8 * 8) = 0) : x.toInt % 8 ≠ 0 := by
  intro q
  exact h (Int32.toInt_inj.mp (by rw [ti_mod8 h0, q]; rfl))
theorem ix_do {x : Int64} {w : Nat} (hw : w ≤ 10000) (h1 : ¬ (lg_cmp x 0) < 0) (h2 : ¬ 0 ≤ (lg_cmp x (nI w).toInt64)) : vp_in x.toInt32 w := by
  have a := lc_ge h1
  have b := lc_lt h2
  rw [i64_of, nI_toInt (by omega)] at b
  have e : x.toInt32.toInt = x.toInt := by
    rw [Int64.toInt_toInt32, Int.bmod_def]; omega
  exact ti_in (by omega) (by omega)
theorem ix_bit {k : Int32} (h : 0 ≤ k.toInt ∧ k.toInt < 524288) : vp_in (k / 8) 65536 := by
  have := ti_div8 h.1
  exact ti_in (by omega) (by omega)
theorem ti_shr1 {w : Int32} (h : 1 ≤ w.toInt) : (w >>> ((1 : Int32) &&& 31)).toInt = w.toInt / 2 := by
  obtain ⟨n, hn, rfl, e⟩ := ti_nn (x := w) (by omega)
  rw [pk_shrN hn _ 1 (by decide), e, nI_toInt (by omega)]; omega
