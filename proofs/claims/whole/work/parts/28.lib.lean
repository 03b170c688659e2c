/-! bounds for the reference's lineWords -/
theorem pl_x {pl : Int32} {wd : Nat} (hwd : wd ≤ 10000) (h0 : -1 ≤ pl.toInt) (h1 : pl.toInt < wd) : pl + 1 = nI (pl.toInt + 1).toNat := by
  refine nI_of_toInt ?_
  rw [ti_add (by rw [ti_1]; omega) (by rw [ti_1]; omega), ti_1]; omega
theorem hpl_of {pl : Int32} (h0 : -1 ≤ pl.toInt) (h1 : pl.toInt ≤ 10000) : ¬ (pl + 1) < 0 := by
  rw [ti_lt, ti_0, ti_add (by rw [ti_1]; omega) (by rw [ti_1]; omega), ti_1]; omega
theorem da_b {of : Nat → Bool} {wd : Nat} {pl : Int32} {bk : Bool} (hwd : wd ≤ 10000) (h0 : -1 ≤ pl.toInt) (h1 : pl.toInt < wd) : pl.toInt < (f_Model_dotAfter of wd pl bk).toInt ∧ (f_Model_dotAfter of wd pl bk).toInt ≤ wd := by
  obtain ⟨a, b, -⟩ := fst_sp (fun i => of i == bk) (wd := wd) (x := (pl.toInt + 1).toNat) (by omega)
  rw [md_f of hwd (pl_x hwd h0 h1) (by omega), nI_toInt (by omega)]
  omega
theorem ca_b {of : Nat → Bool} {wd : Nat} {pl : Int32} {bk : Bool} (hwd : wd ≤ 10000) (h0 : -1 ≤ pl.toInt) (h1 : pl.toInt < wd) : pl.toInt < (f_Model_changeAfter of wd pl bk).toInt ∧ (f_Model_changeAfter of wd pl bk).toInt ≤ wd := by
  obtain ⟨a, b, -⟩ := fst_sp (chg of bk) (wd := wd) (x := (pl.toInt + 1).toNat) (by omega)
  rw [mc_f of hwd (pl_x hwd h0 h1) (by omega), nI_toInt (by omega)]
  omega
theorem rl_b {nx x : Int32} {nex : Nat → Bool} {bk : Bool} (h : 0 ≤ nx.toInt ∧ nx.toInt ≤ 129000) (hx : 0 ≤ x.toInt ∧ x.toInt ≤ 10000) : nx.toInt ≤ (f_Model_run nx nex x bk).1.toInt ∧ (0 < x.toInt → (f_Model_run nx nex x bk).1.toInt ≤ nx.toInt + 6 * x.toInt) ∧ (x.toInt = 0 → (f_Model_run nx nex x bk).1.toInt ≤ nx.toInt + 10) := by
  obtain ⟨b, hb, rfl, eb⟩ := ti_nn h.1
  obtain ⟨n, hn, rfl, en⟩ := ti_nn hx.1
  obtain ⟨r1, r2, r3⟩ := runB_len (n / 2560) n bk rfl
  rw [mr_f (by omega) (by omega)]
  show _ ≤ (nI (b + (runB n bk).length)).toInt ∧ (_ → (nI (b + (runB n bk).length)).toInt ≤ _) ∧ (_ → (nI (b + (runB n bk).length)).toInt ≤ _)
  rw [eb, en, nI_toInt (n := b + (runB n bk).length) (by omega)]
  exact ⟨by omega, fun q => by have := r2 (by omega); omega, fun q => by have := r3 (by omega); omega⟩
def moN (j : Nat) : Nat := (tMo j).toNatClampNeg
theorem mo_w : ∀ j, j < 10 → tMo j = nI (moN j) ∧ 1 ≤ moN j ∧ moN j < 16384 ∧ (j < 9 → (moN j).log2 ≤ 7) := by decide +kernel
theorem mo_s {nx i : Int32} {nex : Nat → Bool} (h : 0 ≤ nx.toInt ∧ nx.toInt ≤ 129969) (hi : vp_in i 9 ∨ vp_in i 10 ∧ i.toInt < 9) : nx.toInt ≤ (f_Model_word nx nex (tMo i.toNatClampNeg)).1.toInt ∧ (f_Model_word nx nex (tMo i.toNatClampNeg)).1.toInt ≤ nx.toInt + 7 := by
  obtain ⟨b, hb, rfl, eb⟩ := ti_nn h.1
  have hj : i.toNatClampNeg < 9 := by
    rcases hi with q | ⟨q, q2⟩
    · exact in_cl q (by decide)
    · obtain ⟨j, hj, rfl⟩ := vp_in_of q (by decide)
      rw [nI_toInt (by omega)] at q2
      rw [nI_clamp (by omega)]; omega
  obtain ⟨e, w1, w2, w3⟩ := mo_w _ (Nat.lt_trans hj (by decide))
  rw [e, mw_a w1 w2 (by omega)]
  show _ ≤ (nI (b + (wl (moN i.toNatClampNeg)).length)).toInt ∧ (nI (b + (wl (moN i.toNatClampNeg)).length)).toInt ≤ _
  have := w3 hj
  rw [eb, wl_len, nI_toInt (n := b + _) (by omega)]
  omega
theorem mo_0 {nx : Int32} {nex : Nat → Bool} (h : 0 ≤ nx.toInt ∧ nx.toInt ≤ 129969) : nx.toInt ≤ (f_Model_word nx nex (tMo (0 : Int32).toNatClampNeg)).1.toInt ∧ (f_Model_word nx nex (tMo (0 : Int32).toNatClampNeg)).1.toInt ≤ nx.toInt + 7 := mo_s h (Or.inl (vp_in_nI (n := 0) (by decide) (by decide)))
theorem mo_1 {nx : Int32} {nex : Nat → Bool} (h : 0 ≤ nx.toInt ∧ nx.toInt ≤ 129969) : nx.toInt ≤ (f_Model_word nx nex (tMo (1 : Int32).toNatClampNeg)).1.toInt ∧ (f_Model_word nx nex (tMo (1 : Int32).toNatClampNeg)).1.toInt ≤ nx.toInt + 3 := by
  obtain ⟨b, hb, rfl, eb⟩ := ti_nn h.1
  rw [show tMo (1 : Int32).toNatClampNeg = nI 9 by decide +kernel, mw_a (by decide) (by decide) (by omega)]
  show _ ≤ (nI (b + (wl 9).length)).toInt ∧ (nI (b + (wl 9).length)).toInt ≤ _
  rw [eb, wl_len, show (9 : Nat).log2 = 3 by decide +kernel, nI_toInt (n := b + 3) (by omega)]
  omega
theorem ix_mo' {x : Int32} (h1 : ¬ x < (-3)) (h2 : ¬ 3 < x) : (5 + x).toInt = 5 + x.toInt ∧ -3 ≤ x.toInt ∧ x.toInt ≤ 3 := by
  rw [ti_lt, show (-3 : Int32).toInt = -3 from rfl] at h1
  rw [ti_lt, show (3 : Int32).toInt = 3 from rfl] at h2
  exact ⟨ti_add (by rw [show (5 : Int32).toInt = 5 from rfl]; omega) (by rw [show (5 : Int32).toInt = 5 from rfl]; omega), by omega, by omega⟩
theorem ix_mo (x : Int32) (h1 : ¬ x < (-3)) (h2 : ¬ 3 < x) : vp_in (5 + x) 10 := by
  obtain ⟨a, b, c⟩ := ix_mo' h1 h2
  exact ti_in (by omega) (by omega)
theorem ix_m9 (x : Int32) (h1 : ¬ x < (-3)) (h2 : ¬ 3 < x) : vp_in (5 + x) 9 ∨ vp_in (5 + x) 10 ∧ (5 + x).toInt < 9 := by
  obtain ⟨a, b, c⟩ := ix_mo' h1 h2
  exact Or.inr ⟨ti_in (by omega) (by omega), by omega⟩
