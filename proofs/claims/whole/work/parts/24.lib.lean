/-! rows for the reference's runs -/
def tMo (j : Nat) : Int32 := ([17, 9, 130, 66, 10, 3, 11, 67, 131, 4097] : List Int32).getD j 0
theorem ti_nn {x : Int32} (h : 0 ≤ x.toInt) : ∃ n : Nat, n < 2 ^ 31 ∧ x = nI n ∧ x.toInt = n := by
  have hb := Int32.toInt_lt x
  exact ⟨x.toInt.toNat, by omega, nI_of_toInt (by omega), by omega⟩
theorem log2_le {W : Nat} (h : W < 16384) (h1 : 1 ≤ W) : ∃ L, L ≤ 13 ∧ 2 ^ L ≤ W ∧ W < 2 ^ (L + 1) := by
  refine ⟨W.log2, ?_, Nat.log2_self_le (by omega), Nat.lt_log2_self⟩
  have := (Nat.log2_lt (k := 14) (by omega)).mpr (by omega : W < 2 ^ 14)
  omega
theorem wg {nx w : Int32} {nex : Nat → Bool} (h : 0 ≤ nx.toInt ∧ nx.toInt ≤ 129969) (hw : 1 ≤ w.toInt ∧ w.toInt < 16384) : nx.toInt ≤ (f_Model_word nx nex w).1.toInt ∧ (f_Model_word nx nex w).1.toInt ≤ nx.toInt + 13 := by
  obtain ⟨b, hb, rfl, eb⟩ := ti_nn h.1
  obtain ⟨W, hW, rfl, eW⟩ := ti_nn (x := w) (by omega)
  obtain ⟨L, h1, h2, h3⟩ := log2_le (W := W) (by omega) (by omega)
  rw [mw_f (by omega) h2 h3 (by omega)]
  show _ ≤ (nI (b + L)).toInt ∧ (nI (b + L)).toInt ≤ _
  rw [eb, nI_toInt (n := b + L) (by omega)]
  omega
def wok (w : Int32) : Prop := 1 ≤ w.toInt ∧ w.toInt < 16384
theorem wok_WR : ∀ j, j < 64 → wok (tWR j) := by unfold wok; decide +kernel
theorem wok_BR : ∀ j, j < 64 → wok (tBR j) := by unfold wok; decide +kernel
theorem wok_WB : ∀ j, j < 27 → wok (tWB j) := by unfold wok; decide +kernel
theorem wok_BB : ∀ j, j < 27 → wok (tBB j) := by unfold wok; decide +kernel
theorem wok_LB : ∀ j, j < 13 → wok (tLB j) := by unfold wok; decide +kernel
theorem wok_Mo : ∀ j, j < 10 → wok (tMo j) := by unfold wok; decide +kernel
theorem in_cl {x : Int32} {n : Nat} (h : vp_in x n) (hn : n < 2 ^ 31) : x.toNatClampNeg < n := by
  obtain ⟨j, hj, rfl⟩ := vp_in_of h hn
  rw [nI_clamp (by omega)]; exact hj
theorem dv64 {k : Int32} (h0 : 0 ≤ k.toInt) (h1 : k < 2560) : ∃ n : Nat, n < 2560 ∧ k = nI n ∧ k / 64 = nI (n / 64) ∧ k - k / 64 * 64 = nI (n % 64) := by
  obtain ⟨n, hn, rfl, e⟩ := ti_nn h0
  rw [ti_lt, show (2560 : Int32).toInt = 2560 from rfl] at h1
  exact ⟨n, by omega, rfl, pk_div hn (d := 64) (by decide) (by decide), pk_rem hn (d := 64) (by decide) (by decide)⟩
theorem ix_lb {k : Int32} (h0 : 0 ≤ k.toInt) (h1 : k < 2560) (h2 : ¬ (k / 64) ≤ 27) : vp_in (k / 64 - 28) 13 := by
  obtain ⟨n, hn, rfl, e, -⟩ := dv64 h0 h1
  rw [e] at h2 ⊢
  rw [ti_le, nI_toInt (by omega), show (27 : Int32).toInt = 27 from rfl] at h2
  rw [show (28 : Int32) = nI 28 from rfl, pk_sub (by omega)]
  exact vp_in_nI (by omega) (by decide)
theorem ix_ob {k : Int32} (h0 : 0 ≤ k.toInt) (h1 : k < 2560) (h2 : (k / 64) ≤ 27) (h3 : ¬ (k / 64) ≤ 0) : vp_in (k / 64 - 1) 27 := by
  obtain ⟨n, hn, rfl, e, -⟩ := dv64 h0 h1
  rw [e] at h2 h3 ⊢
  rw [ti_le, nI_toInt (by omega), show (27 : Int32).toInt = 27 from rfl] at h2
  rw [ti_le, nI_toInt (by omega), ti_0] at h3
  rw [show (1 : Int32) = nI 1 from rfl, pk_sub (by omega)]
  exact vp_in_nI (by omega) (by decide)
theorem ix_re {k : Int32} (h0 : 0 ≤ k.toInt) (h1 : k < 2560) : vp_in (k - k / 64 * 64) 64 := by
  obtain ⟨n, hn, rfl, -, e⟩ := dv64 h0 h1
  rw [e]
  exact vp_in_nI (Nat.mod_lt _ (by decide)) (by decide)
