/-! rows for the reference's words that are read -/
theorem mul8 {g : Int32} (h : 0 ≤ g.toInt ∧ g.toInt ≤ 65536) : (8 * g).toInt = 8 * g.toInt := by
  obtain ⟨n, hn, rfl, e⟩ := ti_nn h.1
  rw [show (8 : Int32) = nI 8 from rfl, pk_mul, e, nI_toInt (by omega)]; omega
theorem dbl {v r : Int32} (h : 0 ≤ v.toInt ∧ v.toInt < 16384) (hr : 0 ≤ r.toInt ∧ r.toInt ≤ 1) : (2 * v + r).toInt = 2 * v.toInt + r.toInt := by
  obtain ⟨n, hn, rfl, e⟩ := ti_nn h.1
  obtain ⟨q, hq, rfl, e2⟩ := ti_nn hr.1
  rw [show (2 : Int32) = nI 2 from rfl, pk_mul, nI_add, e, e2, nI_toInt (by omega)]; omega
theorem bit_b {inp : Nat → Int32} {x : Int32} : 0 ≤ (f_Model_bit inp x).toInt ∧ (f_Model_bit inp x).toInt ≤ 1 := by
  unfold f_Model_bit
  obtain ⟨j, hj, e⟩ := pk_andE ((inp (x / 8).toNatClampNeg) >>> ((7 - (x - x / 8 * 8)) &&& 31)) (m := 1) 1 (by decide)
  rw [e, nI_toInt (by omega)]; omega
theorem wok_M9 {my : Int32} (h : my = nI 9 ∨ my = nI 10) : ∃ M, my = nI M ∧ M < 11 ∧ my.toInt ≤ 10 ∧ ∀ k, k < M → wok (tMo k) := by
  rcases h with h | h
  · exact ⟨9, h, by decide, by rw [h]; decide, fun k hk => wok_Mo k (by omega)⟩
  · exact ⟨10, h, by decide, by rw [h]; decide, fun k hk => wok_Mo k (by omega)⟩
theorem bg_M {my x : Int32} (h : my = nI 9 ∨ my = nI 10) (hx : 0 ≤ x.toInt) (hb : ¬ f_Model_begins tMo my x = 0) : x.toInt < 16384 := by
  obtain ⟨M, e, h1, -, h2⟩ := wok_M9 h
  exact bg_b e (by omega) hx h2 hb
theorem lt_end {p g : Int32} (hg : 0 ≤ g.toInt ∧ g.toInt ≤ 65536) (h : p.toInt ≤ 8 * g.toInt) (hc : ¬ p = (8 * g)) : p.toInt < 8 * g.toInt := by
  have h8 := mul8 hg
  rcases Int.lt_or_eq_of_le h with q | q
  · exact q
  · exact absurd (Int32.toInt_inj.mp (by rw [h8]; exact q)) hc
