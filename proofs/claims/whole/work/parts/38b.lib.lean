/-! numbers of a run that is read -/
theorem m64a {r : Int32} (h0 : 0 ≤ r.toInt) (h1 : r.toInt < 27) : (64 * (r + 1)).toInt = 64 * (r.toInt + 1) := by
  obtain ⟨n, hn, rfl, e⟩ := ti_nn h0
  rw [nI_1, show (64 : Int32) = nI 64 from rfl, pk_mul, e, nI_toInt (by omega)]; omega
theorem m64b {r : Int32} (h0 : 0 ≤ r.toInt) (h1 : r.toInt < 13) : (1792 + 64 * r).toInt = 1792 + 64 * r.toInt := by
  obtain ⟨n, hn, rfl, e⟩ := ti_nn h0
  rw [show (64 : Int32) = nI 64 from rfl, pk_mul, show (1792 : Int32) = nI 1792 from rfl, nI_add, e, nI_toInt (by omega)]; omega
theorem le_wd {a : Int32} {w : Nat} (hw : w ≤ 10000) (h : a ≤ nI w) : a.toInt ≤ w := by
  rw [ti_le, nI_toInt (by omega)] at h; exact h
