/-! words as lists of bits; runs -/
def wl (W : Nat) : List Bool := (List.range W.log2).map (fun i => W.testBit (W.log2 - 1 - i))
theorem wl_len (W : Nat) : (wl W).length = W.log2 := by simp [wl]
def app (g : Nat → Bool) (b : Nat) (l : List Bool) : Nat → Bool := fun i => if b ≤ i ∧ i < b + l.length then l.getD (i - b) false else g i
theorem app_nil (g : Nat → Bool) (b : Nat) : app g b [] = g := by
  funext i; unfold app; rw [if_neg (by simp only [List.length_nil]; omega)]
theorem app_app (g : Nat → Bool) (b : Nat) (l k : List Bool) : app (app g b l) (b + l.length) k = app g b (l ++ k) := by
  funext i
  unfold app
  rw [List.length_append]
  by_cases h1 : b + l.length ≤ i ∧ i < b + l.length + k.length
  · rw [if_pos h1, if_pos (by omega), List.getD_eq_getElem?_getD, List.getD_eq_getElem?_getD, List.getElem?_append_right (by omega), show i - b - l.length = i - (b + l.length) by omega]
  · rw [if_neg h1]
    by_cases h2 : b ≤ i ∧ i < b + l.length
    · rw [if_pos h2, if_pos (by omega), List.getD_eq_getElem?_getD, List.getD_eq_getElem?_getD, List.getElem?_append_left (by omega)]
    · rw [if_neg h2, if_neg (by omega)]
theorem putW_app (g : Nat → Bool) (b W : Nat) : putW g b W W.log2 = app g b (wl W) := by
  funext i
  unfold putW app
  rw [wl_len]
  by_cases h : b ≤ i ∧ i < b + W.log2
  · rw [if_pos h, if_pos h]
    have h2 : i - b < W.log2 := by omega
    simp [wl, List.getD, h2]
    congr 1; omega
  · rw [if_neg h, if_neg h]
theorem mw_a {W b : Nat} (h1 : 1 ≤ W) (h2 : W < 16384) (hb : b ≤ 129969) (g : Nat → Bool) : f_Model_word (nI b) g (nI W) = (nI (b + (wl W).length), app g b (wl W)) := by
  have h3 := (Nat.log2_lt (k := 14) (by omega)).mpr (by omega : W < 2 ^ 14)
  rw [mw_f (L := W.log2) (by omega) (Nat.log2_self_le (by omega)) Nat.lt_log2_self (by omega), putW_app, wl_len]
/-- the words' numbers -/
def blkN (k : Nat) (bk : Bool) : Nat := if 27 < k then (tLB (k - 28)).toNatClampNeg else if bk then (tBB (k - 1)).toNatClampNeg else (tWB (k - 1)).toNatClampNeg
def rstN (r : Nat) (bk : Bool) : Nat := if bk then (tBR r).toNatClampNeg else (tWR r).toNatClampNeg
theorem rst_w : ∀ r, r < 64 → (tWR r = nI (rstN r false) ∧ 1 ≤ rstN r false ∧ rstN r false < 16384) ∧ (tBR r = nI (rstN r true) ∧ 1 ≤ rstN r true ∧ rstN r true < 16384) := by decide +kernel
theorem blk_w : ∀ k, k < 40 → 0 < k → (27 < k → ∀ bk, tLB (k - 28) = nI (blkN k bk)) ∧ (¬ 27 < k → tWB (k - 1) = nI (blkN k false) ∧ tBB (k - 1) = nI (blkN k true)) ∧ ∀ bk, 1 ≤ blkN k bk ∧ blkN k bk < 16384 := by decide +kernel
theorem rst_l : ∀ r, r < 64 → ∀ bk, (rstN r bk).log2 ≤ 13 ∧ (0 < r → (rstN r bk).log2 ≤ 6 * r) ∧ (rstN 0 bk).log2 ≤ 10 := by decide +kernel
theorem blk_l : ∀ k, k < 40 → 0 < k → ∀ bk, (blkN k bk).log2 ≤ 13 := by decide +kernel
/-- the bits of a run of less than 2560 dots -/
def tailB (n : Nat) (bk : Bool) : List Bool := (if n / 64 = 0 then [] else wl (blkN (n / 64) bk)) ++ wl (rstN (n % 64) bk)
def runB (n : Nat) (bk : Bool) : List Bool := (List.replicate (n / 2560) (wl 4127)).flatten ++ tailB (n % 2560) bk
theorem runB_lt {n : Nat} (h : n < 2560) (bk : Bool) : runB n bk = tailB n bk := by
  unfold runB; rw [Nat.div_eq_of_lt h, Nat.mod_eq_of_lt h]; rfl
theorem runB_ge {n : Nat} (h : 2560 ≤ n) (bk : Bool) : runB n bk = wl 4127 ++ runB (n - 2560) bk := by
  unfold runB
  rw [show n / 2560 = (n - 2560) / 2560 + 1 by omega, show n % 2560 = (n - 2560) % 2560 by omega, List.replicate_succ, List.flatten_cons, List.append_assoc]
theorem tailB_len {n : Nat} (h : n < 2560) (bk : Bool) : (tailB n bk).length ≤ 26 ∧ (0 < n → (tailB n bk).length ≤ 6 * n) ∧ (n = 0 → (tailB n bk).length ≤ 10) := by
  unfold tailB
  rw [List.length_append, wl_len]
  obtain ⟨r1, r2, r3⟩ := rst_l (n % 64) (Nat.mod_lt _ (by decide)) bk
  by_cases h0 : n / 64 = 0
  · rw [if_pos h0]
    have e : n % 64 = n := by omega
    rw [e] at r1 r2 ⊢
    refine ⟨by simp; omega, fun q => by simp; exact r2 q, fun q => ?_⟩
    subst q; simpa using r3
  · rw [if_neg h0, wl_len]
    have := blk_l (n / 64) (by omega) (by omega) bk
    exact ⟨by omega, fun q => by omega, fun q => by omega⟩
theorem runB_len : ∀ (k n : Nat) (bk : Bool), n / 2560 = k → (runB n bk).length ≤ 12 * k + 26 ∧ (0 < n → (runB n bk).length ≤ 6 * n) ∧ (n = 0 → (runB n bk).length ≤ 10) := by
  intro k
  induction k with
  | zero =>
    intro n bk h
    rw [runB_lt (by omega)]
    have := tailB_len (n := n) (by omega) bk
    exact ⟨by omega, this.2.1, this.2.2⟩
  | succ k ih =>
    intro n bk h
    rw [runB_ge (by omega), List.length_append, wl_len, show (4127 : Nat).log2 = 12 by decide +kernel]
    obtain ⟨a, b, c⟩ := ih (n - 2560) bk (by omega)
    refine ⟨by omega, fun q => ?_, fun q => by omega⟩
    rcases Nat.eq_or_lt_of_le (Nat.zero_le (n - 2560)) with e | e
    · have := c e.symm; omega
    · have := b e; omega
theorem mr_t {n : Nat} (hn : n < 2560) (x nx : Int32) (nex : Nat → Bool) (bk : Bool) (rec : Int32 → (Nat → Bool) → Int32 → Int32 × (Nat → Bool)) {b : Nat} (hb : b ≤ 129500) (g : Nat → Bool) : j_Model_run_89 nx nex x bk rec (nI b) g (nI n) = (nI (b + (wl (rstN (n % 64) bk)).length), app g b (wl (rstN (n % 64) bk))) := by
  obtain ⟨⟨w1, w2, w3⟩, b1, b2, b3⟩ := rst_w (n % 64) (Nat.mod_lt _ (by decide))
  simp only [j_Model_run_89]
  rw [show nI n - nI n / 64 * 64 = nI (n % 64) from pk_rem (d := 64) (by omega) (by decide) (by decide), nI_clamp (by omega), w1, b1, mw_a w2 w3 (by omega), mw_a b2 b3 (by omega)]
  cases bk <;> rfl
theorem mr_2 (x nx : Int32) (nex : Nat → Bool) (bk : Bool) : ∀ (f n b : Nat) (g : Nat → Bool), n < f → n ≤ 10000 → b + 12 * (n / 2560) ≤ 129100 → l_Model_run_2 nx nex x bk f (nI b) g (nI n) = (nI (b + (runB n bk).length), app g b (runB n bk)) := by
  intro f
  induction f with
  | zero => intro n b g h; omega
  | succ f ih =>
    intro n b g hf hn hb
    simp only [l_Model_run_2]
    by_cases h : n < 2560
    · rw [if_pos (by rw [ti_lt, nI_toInt (by omega), show (2560 : Int32).toInt = 2560 from rfl]; omega), runB_lt h]
      rw [show nI n / 64 = nI (n / 64) from pk_div (d := 64) (by omega) (by decide) (by decide)]
      unfold tailB
      by_cases h0 : n / 64 = 0
      · rw [h0, if_pos (by decide), if_pos rfl, List.nil_append]
        exact mr_t h x nx nex bk _ (by omega) g
      · obtain ⟨k1, k2, k3⟩ := blk_w (n / 64) (by omega) (by omega)
        have hl := blk_l (n / 64) (by omega) (by omega)
        rw [if_neg (by rw [ti_le, nI_toInt (by omega), ti_0]; omega), if_neg h0]
        have e1 : (nI (n / 64) - 1) = nI (n / 64 - 1) := pk_sub (b := 1) (by omega)
        by_cases h27 : 27 < n / 64
        · rw [if_neg (by rw [ti_le, nI_toInt (by omega), show (27 : Int32).toInt = 27 from rfl]; omega), show nI (n / 64) - 28 = nI (n / 64 - 28) from pk_sub (b := 28) (by omega), nI_clamp (by omega), k1 h27 bk, mw_a (k3 bk).1 (k3 bk).2 (by omega)]
          have := hl bk
          rw [mr_t h x nx nex bk _ (by rw [wl_len]; omega), app_app, List.length_append, Nat.add_assoc]
        · rw [if_pos (by rw [ti_le, nI_toInt (by omega), show (27 : Int32).toInt = 27 from rfl]; omega), e1, nI_clamp (by omega), (k2 h27).1, (k2 h27).2, mw_a (k3 false).1 (k3 false).2 (by omega), mw_a (k3 true).1 (k3 true).2 (by omega)]
          have l1 := hl true
          have l2 := hl false
          cases bk
          · rw [if_pos (by decide), mr_t h x nx nex false _ (by rw [wl_len]; omega), app_app, List.length_append, Nat.add_assoc]
          · rw [if_neg (by decide), mr_t h x nx nex true _ (by rw [wl_len]; omega), app_app, List.length_append, Nat.add_assoc]
    · rw [if_neg (by rw [ti_lt, nI_toInt (by omega), show (2560 : Int32).toInt = 2560 from rfl]; omega), runB_ge (by omega)]
      have e1 : nI n + -2560 = nI (n - 2560) := by
        refine nI_of_toInt ?_
        rw [ti_add (by rw [nI_toInt (by omega), show (-2560 : Int32).toInt = -2560 from rfl]; omega) (by rw [nI_toInt (by omega), show (-2560 : Int32).toInt = -2560 from rfl]; omega), nI_toInt (by omega), show (-2560 : Int32).toInt = -2560 from rfl]
        omega
      have e2 : (wl 4127).length = 12 := by rw [wl_len]; decide +kernel
      rw [e1, show tLB (12 : Int32).toNatClampNeg = nI 4127 by decide +kernel, mw_a (by decide) (by decide) (by omega)]
      rw [ih (n - 2560) _ _ (by omega) (by omega) (by rw [e2]; omega), app_app, List.length_append, Nat.add_assoc]
theorem mr_f {n b : Nat} (hn : n ≤ 10000) (hb : b ≤ 129000) (g : Nat → Bool) (bk : Bool) : f_Model_run (nI b) g (nI n) bk = (nI (b + (runB n bk).length), app g b (runB n bk)) := by
  unfold f_Model_run
  exact mr_2 _ _ _ _ _ n b g (by rw [nI_toInt (by omega)]; omega) hn (by omega)
