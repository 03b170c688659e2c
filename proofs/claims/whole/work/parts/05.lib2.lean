/-! indices and steps -/
theorem tI_1 {i : Int32} {n : Nat} (hn : n < 2147483648) (h1 : ¬ i < 0) (h2 : ¬ nI n ≤ i) : (i + 1).toInt = i.toInt + 1 := by
  have h4 := Int32.lt_iff_toInt_lt.mp (Int32.not_le.mp h2)
  rw [nI_toInt hn] at h4
  have h3 := Int32.le_iff_toInt_le.mp (Int32.not_lt.mp h1)
  rw [show (0 : Int32).toInt = 0 from rfl] at h3
  rw [Int32.toInt_add, show (1 : Int32).toInt = 1 from rfl, Int.bmod_def]
  omega
theorem nn_s {i : Int32} {n : Nat} (hn : n < 2147483648) (h1 : ¬ i < 0) (h2 : ¬ nI n ≤ i) : ¬ (i + 1) < 0 := by
  intro h
  have h5 := Int32.lt_iff_toInt_lt.mp h
  rw [tI_1 hn h1 h2, show (0 : Int32).toInt = 0 from rfl] at h5
  have h3 := Int32.le_iff_toInt_le.mp (Int32.not_lt.mp h1)
  rw [show (0 : Int32).toInt = 0 from rfl] at h3
  omega
theorem ix_s {i : Int32} {n : Nat} (hn : n < 2147483648) (h1 : ¬ i < 0) (h2 : i < nI n) (h3 : ¬ nI n ≤ i + 1) : vp_in (i + 1) n := ix_b hn (nn_s hn h1 (Int32.not_le.mpr h2)) h3
theorem shr_nn {i : Int32} (h : ¬ i < 0) : ¬ (i >>> ((6 : Int32) &&& 31)) < 0 := by
  obtain ⟨j, hj, rfl⟩ := nI_of h
  rw [pk_shrN hj _ 6 (by decide)]
  exact nI_pos (Nat.lt_of_le_of_lt (Nat.div_le_self _ _) hj)
theorem mu_d {i : Int32} (h : ¬ i ≤ 0) : (i + (-1)).toInt.toNat < i.toInt.toNat := by
  have h1 := Int32.lt_iff_toInt_lt.mp (Int32.not_le.mp h)
  rw [show (0 : Int32).toInt = 0 from rfl] at h1
  have h2 := Int32.toInt_lt i
  have h4 : (i + (-1)).toInt = i.toInt - 1 := by
    rw [Int32.toInt_add, show (-1 : Int32).toInt = -1 from rfl, Int.bmod_def]
    omega
  omega
theorem mu_f {i : Int32} (h : ¬ i < 2560) : (i + (-2560)).toInt.toNat < i.toInt.toNat := by
  have h1 := Int32.le_iff_toInt_le.mp (Int32.not_lt.mp h)
  rw [show (2560 : Int32).toInt = 2560 from rfl] at h1
  have h2 := Int32.toInt_lt i
  have h4 : (i + (-2560)).toInt = i.toInt - 2560 := by
    rw [Int32.toInt_add, show (-2560 : Int32).toInt = -2560 from rfl, Int.bmod_def]
    omega
  omega
theorem mu_e {i : Int32} {n : Nat} (hn : n ≤ 10000) (h : ¬ nI n < i) : ((nI n).toInt + 1 - (i + 1).toInt).toNat < ((nI n).toInt + 1 - i.toInt).toNat := by
  have h1 := Int32.le_iff_toInt_le.mp (Int32.not_lt.mp h)
  rw [nI_toInt (by omega)] at h1 ⊢
  have h3 := Int32.le_toInt i
  have h4 : (i + 1).toInt = i.toInt + 1 := by
    rw [Int32.toInt_add, show (1 : Int32).toInt = 1 from rfl, Int.bmod_def]
    omega
  omega
