/-! the reference's word: its bits behind those that stand there -/
theorem sm_l : ∀ n, n < 32 → ((nI n &&& 31).toBitVec.smod 32).toNat = n := by decide +kernel
theorem nI_and1 {n : Nat} (h : n < 2 ^ 31) : nI n &&& 1 = nI (n % 2) := pk_andN (by omega) 1 (by decide)
theorem nI_shr {n k : Nat} (h : n < 2 ^ 31) (hk : k < 32) : nI n >>> (nI k &&& 31) = nI (n / 2 ^ k) := pk_shrN h _ k (sm_l k hk)
theorem nI_bit {n k : Nat} (h : n < 2 ^ 31) (hk : k < 32) : ((nI n >>> (nI k &&& 31)) &&& 1) = 1 ↔ n.testBit k = true := by
  have hd : n / 2 ^ k < 2 ^ 31 := Nat.lt_of_le_of_lt (Nat.div_le_self _ _) h
  rw [nI_shr h hk, nI_and1 hd, Nat.testBit_eq_decide_div_mod_eq, decide_eq_true_iff]
  have hm : n / 2 ^ k % 2 < 2 := Nat.mod_lt _ (by decide)
  exact nI_eq (b := 1) (by omega) (by decide)
theorem nI_of_toInt {x : Int32} {n : Nat} (h : x.toInt = n) : x = nI n := by
  have hb := Int32.toInt_lt x
  exact Int32.toInt_inj.mp (by rw [nI_toInt (by omega)]; exact h)
/-- the r lowest bits of W, the highest first, at b -/
def putW (g : Nat → Bool) (b W r : Nat) : Nat → Bool := fun i => if b ≤ i ∧ i < b + r then W.testBit (b + r - 1 - i) else g i
theorem putW_0 (g : Nat → Bool) (b W : Nat) : putW g b W 0 = g := by
  funext i
  unfold putW
  rw [if_neg (by omega)]
theorem putW_s (g : Nat → Bool) (b W r : Nat) : putW (uB g b (W.testBit r)) (b + 1) W r = putW g b W (r + 1) := by
  funext i
  unfold putW uB
  by_cases h : i = b
  · subst h
    rw [if_neg (by omega), if_pos rfl, if_pos (by omega), show i + (r + 1) - 1 - i = r by omega]
  · by_cases h2 : b + 1 ≤ i ∧ i < b + 1 + r
    · rw [if_pos h2, if_pos (by omega), show b + 1 + r - 1 - i = b + (r + 1) - 1 - i by omega]
    · rw [if_neg h2, if_neg h, if_neg (by omega)]
theorem mw_19 (nx : Int32) (nex : Nat → Bool) {W : Nat} (hW : W < 2 ^ 31) : ∀ (r fuel b : Nat) (g : Nat → Bool) (j : Int32), j.toInt = (r : Int) - 1 → r < fuel → r ≤ 31 → b + r ≤ 130000 → l_Model_word_19 nx nex (nI W) fuel (nI b) g j = (nI (b + r), putW g b W r) := by
  intro r
  induction r with
  | zero =>
    intro fuel b g j hj hf h31 hb
    obtain ⟨f, rfl⟩ : ∃ f, fuel = f + 1 := ⟨fuel - 1, by omega⟩
    simp only [l_Model_word_19]
    rw [if_pos (by rw [ti_lt, ti_0]; omega), putW_0]
    rfl
  | succ r ih =>
    intro fuel b g j hj hf h31 hb
    obtain ⟨f, rfl⟩ : ∃ f, fuel = f + 1 := ⟨fuel - 1, by omega⟩
    have ej : j = nI r := nI_of_toInt (by omega)
    have e1 : (j + -1).toInt = (r : Int) - 1 := by rw [ti_add (by rw [ti_m1]; omega) (by rw [ti_m1]; omega), ti_m1]; omega
    have e2 : (nI b).toNatClampNeg = b := nI_clamp (by omega)
    simp only [l_Model_word_19]
    rw [if_neg (by rw [ti_lt, ti_0]; omega), nI_1, e2, ih f (b + 1) _ _ e1 (by omega) (by omega) (by omega), ih f (b + 1) _ _ e1 (by omega) (by omega) (by omega)]
    have e3 : b + 1 + r = b + (r + 1) := by omega
    rw [ej, e3]
    by_cases ht : W.testBit r = true
    · rw [if_pos ((nI_bit hW (by omega)).mpr ht), ← putW_s, ht]
    · rw [if_neg (fun h => ht ((nI_bit hW (by omega)).mp h)), ← putW_s, Bool.eq_false_iff.mpr ht]
theorem mw_2 {W L b : Nat} (hL : L ≤ 30) (h1 : 2 ^ L ≤ W) (h2 : W < 2 ^ (L + 1)) (hb : b + L ≤ 130000) (nex : Nat → Bool) : ∀ (d k fuel : Nat), k + d = L → d < fuel → l_Model_word_2 (nI b) nex (nI W) fuel (nI k) = (nI (b + L), putW nex b W L) := by
  have hW : W < 2 ^ 31 := Nat.lt_of_lt_of_le h2 (Nat.pow_le_pow_right (by decide) (by omega))
  intro d
  induction d with
  | zero =>
    intro k fuel hk hf
    obtain ⟨f, rfl⟩ : ∃ f, fuel = f + 1 := ⟨fuel - 1, by omega⟩
    have ek : k = L := by omega
    subst ek
    have e0 : W / 2 ^ k = 1 := by
      refine Nat.div_eq_of_lt_le (by omega) ?_
      rw [show (1 + 1) * 2 ^ k = 2 ^ (k + 1) by rw [Nat.pow_succ]; omega]
      exact h2
    simp only [l_Model_word_2]
    have e1 : (nI k - 1).toInt = (k : Int) - 1 := by rw [ti_sub (by rw [ti_1, nI_toInt (by omega)]; omega) (by rw [ti_1, nI_toInt (by omega)]; omega), ti_1, nI_toInt (by omega)]
    rw [nI_shr hW (by omega), e0, if_pos (by decide)]
    exact mw_19 (nI b) nex hW k _ b nex _ e1 (by rw [e1]; omega) (by omega) hb
  | succ d ih =>
    intro k fuel hk hf
    obtain ⟨f, rfl⟩ : ∃ f, fuel = f + 1 := ⟨fuel - 1, by omega⟩
    have e0 : 2 ≤ W / 2 ^ k := by
      refine (Nat.le_div_iff_mul_le (Nat.two_pow_pos k)).mpr ?_
      rw [show 2 * 2 ^ k = 2 ^ (k + 1) by rw [Nat.pow_succ]; omega]
      exact Nat.le_trans (Nat.pow_le_pow_right (by decide) (by omega)) h1
    have hd : W / 2 ^ k < 2 ^ 31 := Nat.lt_of_le_of_lt (Nat.div_le_self _ _) hW
    simp only [l_Model_word_2]
    rw [nI_shr hW (by omega), if_neg (by rw [ti_le, ti_1, nI_toInt hd]; omega), nI_1]
    exact ih (k + 1) f (by omega) (by omega)
/-- word(W), of L bits -/
theorem mw_f {W L b : Nat} (hL : L ≤ 30) (h1 : 2 ^ L ≤ W) (h2 : W < 2 ^ (L + 1)) (hb : b + L ≤ 130000) (nex : Nat → Bool) : f_Model_word (nI b) nex (nI W) = (nI (b + L), putW nex b W L) :=
  mw_2 hL h1 h2 hb nex L 0 _ (by omega) (by rw [ti_0]; omega)
