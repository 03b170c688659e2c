/-! leading zeros -/
abbrev sh3 (k : Int32) (y : Int32) : Int32 := (y.toUInt32 >>> (k.toUInt32 &&& Int32.toUInt32 31)).toInt32
def tz2 (X y : Int32) : Int32 := if y < 4 then X - sh3 1 y else X + (-2) - sh3 1 (sh3 2 y)
def tz4 (X y : Int32) : Int32 := if y < 16 then tz2 X y else tz2 (X + (-4)) (sh3 4 y)
def tz8 (X y : Int32) : Int32 := if y < 256 then tz4 X y else tz4 (X + (-8)) (sh3 8 y)
def tz16 (X y : Int32) : Int32 := if y < 65536 then tz8 X y else tz8 (X + (-16)) (sh3 16 y)
theorem nlz_t (i : Int32) : f_Integer_numberOfLeadingZeros i = if 0 < i then tz16 31 i else if i = 0 then 32 else 0 := rfl
theorem sh3_f {n r : Nat} (hn : n < 2 ^ 31) (k : Int32) (hk : ((k.toUInt32 &&& Int32.toUInt32 31).toBitVec % 32).toNat = r) : sh3 k (nI n) = nI (n / 2 ^ r) := pk_ushrN (by omega) k r hk
theorem nI_m {N k : Nat} (h : k ≤ N) {K : Int32} (hK : K = - nI k) : nI N + K = nI (N - k) := by
  subst hK
  rw [← pk_sub h]
  exact (Int32.sub_eq_add_neg _ _).symm
theorem t2_f {N m : Nat} (hN : 3 ≤ N) (hN2 : N ≤ 31) (h1 : 1 ≤ m) (h2 : m < 16) : ∃ L, 2 ^ L ≤ m ∧ m < 2 ^ (L + 1) ∧ L ≤ 3 ∧ tz2 (nI N) (nI m) = nI (N - L) := by
  unfold tz2
  have s1 : ∀ q, q < 16 → sh3 1 (nI q) = nI (q / 2) := fun q hq => sh3_f (r := 1) (by omega) 1 (by decide)
  have s2 : sh3 2 (nI m) = nI (m / 4) := sh3_f (r := 2) (by omega) 2 (by decide)
  by_cases h : m < 4
  · rw [if_pos (show nI m < 4 from nI_lt (b := 4) h (by omega)), s1 m h2, pk_sub (by omega)]
    by_cases h3 : m < 2
    · exact ⟨0, by omega, by omega, by omega, by rw [show m / 2 = 0 by omega]⟩
    · exact ⟨1, by omega, by omega, by omega, by rw [show m / 2 = 1 by omega]⟩
  · rw [if_neg (show ¬ nI m < 4 from nI_nlt (b := 4) (by omega) (by omega)), s2, s1 _ (by omega), show nI N + (-2) = nI (N - 2) from nI_m (k := 2) (by omega) (by decide), pk_sub (by omega)]
    by_cases h3 : m < 8
    · exact ⟨2, by omega, by omega, by omega, by rw [show m / 4 / 2 = 0 by omega]; congr 1⟩
    · exact ⟨3, by omega, by omega, by omega, by rw [show m / 4 / 2 = 1 by omega]; congr 1⟩
theorem t4_f {N m : Nat} (hN : 7 ≤ N) (hN2 : N ≤ 31) (h1 : 1 ≤ m) (h2 : m < 256) : ∃ L, 2 ^ L ≤ m ∧ m < 2 ^ (L + 1) ∧ L ≤ 7 ∧ tz4 (nI N) (nI m) = nI (N - L) := by
  unfold tz4
  by_cases h : m < 16
  · rw [if_pos (show nI m < 16 from nI_lt (b := 16) h (by omega))]
    obtain ⟨L, a, b, c, d⟩ := t2_f (N := N) (by omega) hN2 h1 h
    exact ⟨L, a, b, by omega, d⟩
  · rw [if_neg (show ¬ nI m < 16 from nI_nlt (b := 16) (by omega) (by omega)), show sh3 4 (nI m) = nI (m / 16) from sh3_f (r := 4) (by omega) 4 (by decide), show nI N + (-4) = nI (N - 4) from nI_m (k := 4) (by omega) (by decide)]
    obtain ⟨L, a, b, c, d⟩ := t2_f (N := N - 4) (m := m / 16) (by omega) (by omega) (by omega) (by omega)
    refine ⟨L + 4, ?_, ?_, by omega, by rw [d, Nat.sub_sub, Nat.add_comm]⟩
    · rw [Nat.pow_add]; omega
    · rw [show L + 4 + 1 = (L + 1) + 4 by omega, Nat.pow_add]; omega
theorem tz8_f {N m : Nat} (hN : 15 ≤ N) (hN2 : N ≤ 31) (h1 : 1 ≤ m) (h2 : m < 65536) : ∃ L, 2 ^ L ≤ m ∧ m < 2 ^ (L + 1) ∧ L ≤ 15 ∧ tz8 (nI N) (nI m) = nI (N - L) := by
  unfold tz8
  by_cases h : m < 256
  · rw [if_pos (show nI m < 256 from nI_lt (b := 256) h (by omega))]
    obtain ⟨L, a, b, c, d⟩ := t4_f (N := N) (by omega) hN2 h1 h
    exact ⟨L, a, b, by omega, d⟩
  · rw [if_neg (show ¬ nI m < 256 from nI_nlt (b := 256) (by omega) (by omega)), show sh3 8 (nI m) = nI (m / 256) from sh3_f (r := 8) (by omega) 8 (by decide), show nI N + (-8) = nI (N - 8) from nI_m (k := 8) (by omega) (by decide)]
    obtain ⟨L, a, b, c, d⟩ := t4_f (N := N - 8) (m := m / 256) (by omega) (by omega) (by omega) (by omega)
    refine ⟨L + 8, ?_, ?_, by omega, by rw [d, Nat.sub_sub, Nat.add_comm]⟩
    · rw [Nat.pow_add]; omega
    · rw [show L + 8 + 1 = (L + 1) + 8 by omega, Nat.pow_add]; omega
theorem nlz_f {m : Nat} (h1 : 1 ≤ m) (h2 : m < 2 ^ 31) : ∃ L, 2 ^ L ≤ m ∧ m < 2 ^ (L + 1) ∧ L ≤ 30 ∧ f_Integer_numberOfLeadingZeros (nI m) = nI (31 - L) := by
  rw [nlz_t, if_pos (show (0 : Int32) < nI m from nI_lt (a := 0) (by omega) h2)]
  unfold tz16
  by_cases h : m < 65536
  · rw [if_pos (show nI m < 65536 from nI_lt (b := 65536) h (by omega))]
    obtain ⟨L, a, b, c, d⟩ := tz8_f (N := 31) (by omega) (by omega) h1 h
    exact ⟨L, a, b, by omega, d⟩
  · rw [if_neg (show ¬ nI m < 65536 from nI_nlt (b := 65536) (by omega) (by omega)), show sh3 16 (nI m) = nI (m / 65536) from sh3_f (r := 16) (by omega) 16 (by decide), show (31 : Int32) + (-16) = nI (31 - 16) from by decide]
    obtain ⟨L, a, b, c, d⟩ := tz8_f (N := 31 - 16) (m := m / 65536) (by omega) (by omega) (by omega) (by omega)
    have e16 : 2 ^ (L + 16) = 2 ^ L * 65536 := by rw [Nat.pow_add]
    have hL : L + 16 ≤ 30 := by
      rcases Nat.lt_or_ge (L + 16) 31 with h9 | h9
      · omega
      · have : 2 ^ 31 ≤ 2 ^ (L + 16) := Nat.pow_le_pow_right (by decide) h9
        omega
    refine ⟨L + 16, ?_, ?_, hL, by rw [d, Nat.sub_sub, Nat.add_comm]⟩
    · rw [e16]; omega
    · rw [show L + 16 + 1 = (L + 1) + 16 by omega, Nat.pow_add]; omega
theorem nlz_neg {x : Int32} (h : x < 0) : f_Integer_numberOfLeadingZeros x = 0 := by
  rw [ti_lt, ti_0] at h
  rw [nlz_t, if_neg (by rw [ti_lt, ti_0]; omega), if_neg (by intro e; rw [e, ti_0] at h; omega)]
theorem log2_of {m L : Nat} (h1 : 2 ^ L ≤ m) (h2 : m < 2 ^ (L + 1)) : m.log2 = L := by
  have h0 : m ≠ 0 := by have := Nat.two_pow_pos L; omega
  have a := (Nat.le_log2 h0).mpr h1
  have b := (Nat.log2_lt h0).mpr h2
  omega
theorem len_f {m : Nat} (h1 : 1 ≤ m) (h2 : m < 2 ^ 31) : f_Words_length (nI m) = nI m.log2 := by
  obtain ⟨L, a, b, c, d⟩ := nlz_f h1 h2
  unfold f_Words_length
  dsimp only
  rw [d, show (31 : Int32) - nI (31 - L) = nI (31 - (31 - L)) from pk_sub (a := 31) (by omega), log2_of a b, show 31 - (31 - L) = L by omega]
/-- the highest bit of a long that isn't 0 -/
theorem nlzL_f {x : Int64} (h : x ≠ 0) : ∃ q, q < 64 ∧ f_Long_numberOfLeadingZeros x = nI q ∧ x.toBitVec.getLsbD (63 - q) = true ∧ ∀ j, 63 - q < j → x.toBitVec.getLsbD j = false := by
  obtain ⟨n, hn⟩ : ∃ n, n = x.toBitVec.toNat := ⟨_, rfl⟩
  have hlt : n < 2 ^ 64 := by rw [hn]; exact x.toBitVec.isLt
  have hne : n ≠ 0 := by
    intro e
    apply h
    apply Int64.toBitVec_inj.mp
    apply BitVec.eq_of_toNat_eq
    rw [← hn, e]; rfl
  have hbit : ∀ j, x.toBitVec.getLsbD j = n.testBit j := fun j => by rw [hn]; rfl
  have hend : ∀ L, 2 ^ L ≤ n → n < 2 ^ (L + 1) → L ≤ 63 → f_Long_numberOfLeadingZeros x = nI (63 - L) → ∃ q, q < 64 ∧ f_Long_numberOfLeadingZeros x = nI q ∧ x.toBitVec.getLsbD (63 - q) = true ∧ ∀ j, 63 - q < j → x.toBitVec.getLsbD j = false := by
    intro L a b c d
    refine ⟨63 - L, by omega, d, ?_, fun j hj => ?_⟩
    · rw [hbit, show 63 - (63 - L) = L by omega, Nat.testBit_eq_decide_div_mod_eq]
      have : n / 2 ^ L = 1 := Nat.div_eq_of_lt_le (by omega) (by rw [show (1 + 1) * 2 ^ L = 2 ^ (L + 1) by rw [Nat.pow_succ]; omega]; exact b)
      rw [this]; rfl
    · rw [hbit]
      exact Nat.testBit_lt_two_pow (Nat.lt_of_lt_of_le b (Nat.pow_le_pow_right (by decide) (by omega)))
  have ehi : ((x.toUInt64 >>> ((32 : Int32).toInt64.toUInt64 &&& Int64.toUInt64 63)).toInt64).toInt32 = nI (n / 2 ^ 32) := by
    apply Int32.toBitVec_inj.mp
    apply BitVec.eq_of_getLsbD_eq
    intro j hj
    rw [Int64.toBitVec_toInt32, BitVec.getLsbD_signExtend, decide_eq_true hj, if_pos (show j < 64 by omega)]
    have := su_b x (r := 32) (by decide) j
    rw [show (nI 32).toInt64 = (32 : Int32).toInt64 from rfl] at this
    rw [this, hbit]
    show _ = (BitVec.ofNat 32 (n / 2 ^ 32)).getLsbD j
    rw [BitVec.getLsbD_ofNat, decide_eq_true hj, Nat.testBit_div_two_pow]
    simp [Nat.add_comm]
  have elo : x.toInt32 = nI (n % 2 ^ 32) := by
    apply Int32.toBitVec_inj.mp
    apply BitVec.eq_of_getLsbD_eq
    intro j hj
    rw [Int64.toBitVec_toInt32, BitVec.getLsbD_signExtend, decide_eq_true hj, if_pos (show j < 64 by omega), hbit]
    show _ = (BitVec.ofNat 32 (n % 2 ^ 32)).getLsbD j
    rw [BitVec.getLsbD_ofNat, decide_eq_true hj, Nat.testBit_mod_two_pow, decide_eq_true hj]
    simp
  have neg : ∀ w, 2 ^ 31 ≤ w → w < 2 ^ 32 → nI w < 0 := by
    intro w h1 h2
    rw [ti_lt, ti_0]
    show (Int32.ofNat w).toInt < 0
    rw [Int32.toInt_ofNat', Int.bmod_def, show (Int32.size : Int) = 4294967296 from rfl]
    omega
  have hi : ∀ w, 1 ≤ w → w < 2 ^ 32 → ∃ L, 2 ^ L ≤ w ∧ w < 2 ^ (L + 1) ∧ L ≤ 31 ∧ f_Integer_numberOfLeadingZeros (nI w) = nI (31 - L) := by
    intro w h1 h2
    rcases Nat.lt_or_ge w (2 ^ 31) with h3 | h3
    · obtain ⟨L, a, b, c, d⟩ := nlz_f h1 h3
      exact ⟨L, a, b, by omega, d⟩
    · exact ⟨31, h3, h2, by omega, nlz_neg (neg w h3 h2)⟩
  by_cases hz : n / 2 ^ 32 = 0
  · obtain ⟨L, a, b, c, d⟩ := hi n (by omega) (by omega)
    refine hend L a b (by omega) ?_
    unfold f_Long_numberOfLeadingZeros
    dsimp only
    rw [ehi, hz, if_pos (by decide), elo, Nat.mod_eq_of_lt (by omega), d]
    show nI 32 + nI (31 - L) = _
    rw [nI_add]; congr 1; omega
  · obtain ⟨L, a, b, c, d⟩ := hi (n / 2 ^ 32) (by omega) (by omega)
    refine hend (L + 32) ?_ ?_ (by omega) ?_
    · rw [Nat.pow_add]; omega
    · rw [show L + 32 + 1 = (L + 1) + 32 by omega, Nat.pow_add]; omega
    · unfold f_Long_numberOfLeadingZeros
      dsimp only
      have hne0 : ¬ nI (n / 2 ^ 32) = 0 := by
        intro e
        have := congrArg (fun z : Int32 => z.toBitVec.toNat) e
        rw [pk_tn (by omega)] at this
        exact hz this
      rw [ehi, if_neg hne0, d]
      congr 1; omega
/-! how many bits of a long are set -/
theorem and_split (w a r s : Nat) (hr : r < 2 ^ w) : a &&& (r + 2 ^ w * s) = ((a % 2 ^ w) &&& r) + 2 ^ w * ((a / 2 ^ w) &&& s) := by
  have h1 : (a &&& (r + 2 ^ w * s)) % 2 ^ w = (a % 2 ^ w) &&& r := by
    rw [Nat.and_mod_two_pow, Nat.add_mul_mod_self_left, Nat.mod_eq_of_lt hr]
  have h2 : (a &&& (r + 2 ^ w * s)) / 2 ^ w = (a / 2 ^ w) &&& s := by
    rw [Nat.and_div_two_pow, Nat.add_mul_div_left _ _ (Nat.two_pow_pos w), Nat.div_eq_of_lt hr, Nat.zero_add]
  have h3 := Nat.div_add_mod (a &&& (r + 2 ^ w * s)) (2 ^ w)
  rw [h1, h2] at h3
  omega
/-- k digits d -/
def rpt (B d : Nat) : Nat → Nat
  | 0 => 0
  | k + 1 => d + B * rpt B d k
def dsum (B : Nat) : Nat → Nat → Nat
  | 0, _ => 0
  | k + 1, m => m % B + dsum B k (m / B)
/-- all k digits are at most c -/
def dle (B c : Nat) : Nat → Nat → Prop
  | 0, m => m = 0
  | k + 1, m => m % B ≤ c ∧ dle B c k (m / B)
def P1 : Nat → Nat → Nat
  | 0, _ => 0
  | k + 1, n => (n % 2 + n / 2 % 2) + 4 * P1 k (n / 4)
def P2 : Nat → Nat → Nat
  | 0, _ => 0
  | k + 1, n => (n % 4 + n / 4 % 4) + 16 * P2 k (n / 16)
def P3 : Nat → Nat → Nat
  | 0, _ => 0
  | k + 1, n => (n % 16 + n / 16 % 16) + 256 * P3 k (n / 256)
theorem P1_s (k n : Nat) : P1 (k + 1) n = (n % 2 + n / 2 % 2) + 4 * P1 k (n / 4) := rfl
theorem P2_s (k n : Nat) : P2 (k + 1) n = (n % 4 + n / 4 % 4) + 16 * P2 k (n / 16) := rfl
theorem P3_s (k n : Nat) : P3 (k + 1) n = (n % 16 + n / 16 % 16) + 256 * P3 k (n / 256) := rfl
theorem and1 : ∀ x, x < 4 → x &&& 1 = x % 2 := by decide
theorem and3 : ∀ x, x < 16 → x &&& 3 = x % 4 := by decide +kernel
theorem and15 : ∀ x, x < 256 → x &&& 15 = x % 16 := by decide +kernel
theorem pA1 : ∀ k n, n < 4 ^ k → (n / 2) &&& rpt 4 1 k ≤ n ∧ n - ((n / 2) &&& rpt 4 1 k) = P1 k n := by
  intro k
  induction k with
  | zero => intro n h; simp [rpt, P1] at *; omega
  | succ k ih =>
    intro n h
    rw [Nat.pow_succ] at h
    obtain ⟨a, b⟩ := ih (n / 4) (by omega)
    have e := and_split 2 (n / 2) 1 (rpt 4 1 k) (by decide)
    have e2 : n / 2 / 2 ^ 2 = n / 4 / 2 := by omega
    rw [e2, and1 _ (by omega)] at e
    have e3 : rpt 4 1 (k + 1) = 1 + 2 ^ 2 * rpt 4 1 k := rfl
    rw [e3, e]
    rw [P1_s]
    omega
theorem pA2 : ∀ k n, n < 16 ^ k → (n &&& rpt 16 3 k) + ((n / 4) &&& rpt 16 3 k) = P2 k n := by
  intro k
  induction k with
  | zero => intro n h; simp [rpt, P2]
  | succ k ih =>
    intro n h
    rw [Nat.pow_succ] at h
    have b := ih (n / 16) (by omega)
    have e := and_split 4 n 3 (rpt 16 3 k) (by decide)
    have f := and_split 4 (n / 4) 3 (rpt 16 3 k) (by decide)
    rw [and3 _ (by omega)] at e f
    rw [show n / 4 / 2 ^ 4 = n / 16 / 4 by omega] at f
    rw [show n / 2 ^ 4 = n / 16 by omega] at e
    have e3 : rpt 16 3 (k + 1) = 3 + 2 ^ 4 * rpt 16 3 k := rfl
    rw [e3, e, f]
    rw [P2_s]
    omega
theorem pA3 : ∀ k n, dle 16 4 (2 * k) n → (n + n / 16) &&& rpt 256 15 k = P3 k n := by
  intro k
  induction k with
  | zero => intro n h; simp [rpt, P3]
  | succ k ih =>
    intro n h
    have hd : n % 16 ≤ 4 ∧ n / 16 % 16 ≤ 4 ∧ dle 16 4 (2 * k) (n / 16 / 16) := h
    obtain ⟨h1, h2, h3⟩ := hd
    have h16 : n / 16 / 16 = n / 256 := by omega
    rw [h16] at h3
    have b := ih (n / 256) h3
    have h4 : n / 256 % 16 ≤ 4 := by
      cases k with
      | zero => have : n / 256 = 0 := h3; omega
      | succ k => exact h3.1
    have e := and_split 8 (n + n / 16) 15 (rpt 256 15 k) (by decide)
    rw [and15 _ (by omega)] at e
    have e4 : (n + n / 16) / 2 ^ 8 = n / 256 + n / 256 / 16 := by omega
    rw [e4, b] at e
    have e3 : rpt 256 15 (k + 1) = 15 + 2 ^ 8 * rpt 256 15 k := rfl
    rw [e3, e]
    rw [P3_s]
    omega
theorem pB1 : ∀ k n, dsum 4 k (P1 k n) = dsum 2 (2 * k) n ∧ dle 4 2 k (P1 k n) := by
  intro k
  induction k with
  | zero => intro n; exact ⟨rfl, rfl⟩
  | succ k ih =>
    intro n
    obtain ⟨a, b⟩ := ih (n / 4)
    have e1 : P1 (k + 1) n % 4 = n % 2 + n / 2 % 2 := by rw [P1_s]; omega
    have e2 : P1 (k + 1) n / 4 = P1 k (n / 4) := by rw [P1_s]; omega
    have e3 : dsum 2 (2 * (k + 1)) n = n % 2 + (n / 2 % 2 + dsum 2 (2 * k) (n / 2 / 2)) := rfl
    refine ⟨?_, ?_, ?_⟩
    · show P1 (k + 1) n % 4 + dsum 4 k (P1 (k + 1) n / 4) = _
      rw [e1, e2, a, e3, show n / 2 / 2 = n / 4 by omega]; omega
    · rw [e1]; omega
    · rw [e2]; exact b
theorem pB2 : ∀ k n, dle 4 2 (2 * k) n → dsum 16 k (P2 k n) = dsum 4 (2 * k) n ∧ dle 16 4 k (P2 k n) := by
  intro k
  induction k with
  | zero => intro n h; exact ⟨rfl, rfl⟩
  | succ k ih =>
    intro n h
    have hd : n % 4 ≤ 2 ∧ n / 4 % 4 ≤ 2 ∧ dle 4 2 (2 * k) (n / 4 / 4) := h
    obtain ⟨h1, h2, h3⟩ := hd
    rw [show n / 4 / 4 = n / 16 by omega] at h3
    obtain ⟨a, b⟩ := ih (n / 16) h3
    have e1 : P2 (k + 1) n % 16 = n % 4 + n / 4 % 4 := by rw [P2_s]; omega
    have e2 : P2 (k + 1) n / 16 = P2 k (n / 16) := by rw [P2_s]; omega
    have e3 : dsum 4 (2 * (k + 1)) n = n % 4 + (n / 4 % 4 + dsum 4 (2 * k) (n / 4 / 4)) := rfl
    refine ⟨?_, ?_, ?_⟩
    · show P2 (k + 1) n % 16 + dsum 16 k (P2 (k + 1) n / 16) = _
      rw [e1, e2, a, e3, show n / 4 / 4 = n / 16 by omega]; omega
    · rw [e1]; omega
    · rw [e2]; exact b
theorem pB3 : ∀ k n, dle 16 4 (2 * k) n → dsum 256 k (P3 k n) = dsum 16 (2 * k) n ∧ dle 256 8 k (P3 k n) := by
  intro k
  induction k with
  | zero => intro n h; exact ⟨rfl, rfl⟩
  | succ k ih =>
    intro n h
    have hd : n % 16 ≤ 4 ∧ n / 16 % 16 ≤ 4 ∧ dle 16 4 (2 * k) (n / 16 / 16) := h
    obtain ⟨h1, h2, h3⟩ := hd
    rw [show n / 16 / 16 = n / 256 by omega] at h3
    obtain ⟨a, b⟩ := ih (n / 256) h3
    have e1 : P3 (k + 1) n % 256 = n % 16 + n / 16 % 16 := by rw [P3_s]; omega
    have e2 : P3 (k + 1) n / 256 = P3 k (n / 256) := by rw [P3_s]; omega
    have e3 : dsum 16 (2 * (k + 1)) n = n % 16 + (n / 16 % 16 + dsum 16 (2 * k) (n / 16 / 16)) := rfl
    refine ⟨?_, ?_, ?_⟩
    · show P3 (k + 1) n % 256 + dsum 256 k (P3 (k + 1) n / 256) = _
      rw [e1, e2, a, e3, show n / 16 / 16 = n / 256 by omega]; omega
    · rw [e1]; omega
    · rw [e2]; exact b
theorem pA4 (m : Nat) (h : dle 256 8 8 m) : (m + m / 256 + (m + m / 256) / 65536 + (m + m / 256 + (m + m / 256) / 65536) / 4294967296) % 128 = dsum 256 8 m ∧ m + m / 256 + (m + m / 256) / 65536 + (m + m / 256 + (m + m / 256) / 65536) / 4294967296 < 2 ^ 63 := by
  have h' : m % 256 ≤ 8 ∧ m / 256 % 256 ≤ 8 ∧ m / 256 / 256 % 256 ≤ 8 ∧ m / 256 / 256 / 256 % 256 ≤ 8 ∧ m / 256 / 256 / 256 / 256 % 256 ≤ 8 ∧ m / 256 / 256 / 256 / 256 / 256 % 256 ≤ 8 ∧ m / 256 / 256 / 256 / 256 / 256 / 256 % 256 ≤ 8 ∧ m / 256 / 256 / 256 / 256 / 256 / 256 / 256 % 256 ≤ 8 ∧ m / 256 / 256 / 256 / 256 / 256 / 256 / 256 / 256 = 0 := h
  have e : dsum 256 8 m = m % 256 + (m / 256 % 256 + (m / 256 / 256 % 256 + (m / 256 / 256 / 256 % 256 + (m / 256 / 256 / 256 / 256 % 256 + (m / 256 / 256 / 256 / 256 / 256 % 256 + (m / 256 / 256 / 256 / 256 / 256 / 256 % 256 + (m / 256 / 256 / 256 / 256 / 256 / 256 / 256 % 256 + 0))))))) := rfl
  rw [e]
  clear e h
  obtain ⟨c0, hc0⟩ : ∃ c, c = m % 256 := ⟨_, rfl⟩
  obtain ⟨c1, hc1⟩ : ∃ c, c = m / 256 % 256 := ⟨_, rfl⟩
  obtain ⟨c2, hc2⟩ : ∃ c, c = m / 256 / 256 % 256 := ⟨_, rfl⟩
  obtain ⟨c3, hc3⟩ : ∃ c, c = m / 256 / 256 / 256 % 256 := ⟨_, rfl⟩
  obtain ⟨c4, hc4⟩ : ∃ c, c = m / 256 / 256 / 256 / 256 % 256 := ⟨_, rfl⟩
  obtain ⟨c5, hc5⟩ : ∃ c, c = m / 256 / 256 / 256 / 256 / 256 % 256 := ⟨_, rfl⟩
  obtain ⟨c6, hc6⟩ : ∃ c, c = m / 256 / 256 / 256 / 256 / 256 / 256 % 256 := ⟨_, rfl⟩
  obtain ⟨c7, hc7⟩ : ∃ c, c = m / 256 / 256 / 256 / 256 / 256 / 256 / 256 % 256 := ⟨_, rfl⟩
  rw [← hc0, ← hc1, ← hc2, ← hc3, ← hc4, ← hc5, ← hc6, ← hc7] at h' ⊢
  have hm : m = c0 + 256 * (c1 + 256 * (c2 + 256 * (c3 + 256 * (c4 + 256 * (c5 + 256 * (c6 + 256 * c7)))))) := by omega
  clear hc0 hc1 hc2 hc3 hc4 hc5 hc6 hc7
  obtain ⟨h0, h1, h2, h3, h4, h5, h6, h7, -⟩ := h'
  have q1 : m / 256 = c1 + 256 * (c2 + 256 * (c3 + 256 * (c4 + 256 * (c5 + 256 * (c6 + 256 * c7))))) := by omega
  obtain ⟨a, ha⟩ : ∃ a, a = m + m / 256 := ⟨_, rfl⟩
  rw [← ha]
  have ha2 : a = (c0 + c1) + 256 * ((c1 + c2) + 256 * ((c2 + c3) + 256 * ((c3 + c4) + 256 * ((c4 + c5) + 256 * ((c5 + c6) + 256 * ((c6 + c7) + 256 * c7)))))) := by omega
  have q2 : a / 65536 = (c2 + c3) + 256 * ((c3 + c4) + 256 * ((c4 + c5) + 256 * ((c5 + c6) + 256 * ((c6 + c7) + 256 * c7)))) := by omega
  clear hm q1 ha
  obtain ⟨b, hb⟩ : ∃ b, b = a + a / 65536 := ⟨_, rfl⟩
  rw [← hb]
  have hb2 : b = (c0 + c1 + c2 + c3) + 256 * ((c1 + c2 + c3 + c4) + 256 * ((c2 + c3 + c4 + c5) + 256 * ((c3 + c4 + c5 + c6) + 256 * ((c4 + c5 + c6 + c7) + 256 * ((c5 + c6 + c7) + 256 * ((c6 + c7) + 256 * c7)))))) := by omega
  have q3 : b / 4294967296 = (c4 + c5 + c6 + c7) + 256 * ((c5 + c6 + c7) + 256 * ((c6 + c7) + 256 * c7)) := by omega
  clear ha2 q2 hb
  constructor <;> omega
abbrev uL (x : Int64) : Nat := x.toBitVec.toNat
theorem uL_and (a b : Int64) : uL (a &&& b) = uL a &&& uL b := by unfold uL; rw [Int64.toBitVec_and, BitVec.toNat_and]
theorem uL_add {a b : Int64} (h : uL a + uL b < 2 ^ 64) : uL (a + b) = uL a + uL b := by unfold uL at *; rw [Int64.toBitVec_add, BitVec.toNat_add, Nat.mod_eq_of_lt h]
theorem uL_sub {a b : Int64} (h : uL b ≤ uL a) : uL (a - b) = uL a - uL b := by
  unfold uL at *
  rw [Int64.toBitVec_sub, BitVec.toNat_sub_of_le (BitVec.le_def.mpr h)]
theorem uL_shr (x : Int64) {r : Nat} (hr : r < 64) : uL ((x.toUInt64 >>> ((nI r).toInt64.toUInt64 &&& Int64.toUInt64 63)).toInt64) = uL x / 2 ^ r := by
  unfold uL
  rw [UInt64.toBitVec_toInt64, UInt64.toBitVec_shiftRight, su_k r hr, BitVec.ushiftRight_eq', bn_k hr, BitVec.toNat_ushiftRight, Nat.shiftRight_eq_div_pow]
  rfl
theorem uL_lt (x : Int64) : uL x < 2 ^ 64 := x.toBitVec.isLt
theorem uL_i32 (x : Int64) : x.toInt32 &&& 127 = nI (uL x % 128) := by
  apply Int32.toBitVec_inj.mp
  apply BitVec.eq_of_getLsbD_eq
  intro j hj
  rw [Int32.toBitVec_and, BitVec.getLsbD_and, Int64.toBitVec_toInt32, BitVec.getLsbD_signExtend, decide_eq_true hj, if_pos (show j < 64 by omega)]
  show _ = (BitVec.ofNat 32 (uL x % 2 ^ 7)).getLsbD j
  rw [BitVec.getLsbD_ofNat, decide_eq_true hj, Nat.testBit_mod_two_pow]
  have e : ∀ j, j < 32 → (127 : Int32).toBitVec.getLsbD j = decide (j < 7) := by decide
  rw [e j hj]
  show (true && (uL x).testBit j && decide (j < 7)) = _
  cases (uL x).testBit j <;> cases decide (j < 7) <;> rfl
theorem bc_f (x : Int64) : f_Long_bitCount x = nI (dsum 2 64 (uL x)) := by
  have hx := uL_lt x
  have c1 : uL (6148914691236517205 : Int64) = rpt 4 1 32 := by decide +kernel
  have c2 : uL (3689348814741910323 : Int64) = rpt 16 3 16 := by decide +kernel
  have c3 : uL (1085102592571150095 : Int64) = rpt 256 15 8 := by decide +kernel
  have s1 : ∀ y : Int64, uL ((y.toUInt64 >>> ((1 : Int32).toInt64.toUInt64 &&& Int64.toUInt64 63)).toInt64) = uL y / 2 := fun y => uL_shr y (r := 1) (by decide)
  have s2 : ∀ y : Int64, uL ((y.toUInt64 >>> ((2 : Int32).toInt64.toUInt64 &&& Int64.toUInt64 63)).toInt64) = uL y / 4 := fun y => uL_shr y (r := 2) (by decide)
  have s4 : ∀ y : Int64, uL ((y.toUInt64 >>> ((4 : Int32).toInt64.toUInt64 &&& Int64.toUInt64 63)).toInt64) = uL y / 16 := fun y => uL_shr y (r := 4) (by decide)
  have s8 : ∀ y : Int64, uL ((y.toUInt64 >>> ((8 : Int32).toInt64.toUInt64 &&& Int64.toUInt64 63)).toInt64) = uL y / 256 := fun y => uL_shr y (r := 8) (by decide)
  have s16 : ∀ y : Int64, uL ((y.toUInt64 >>> ((16 : Int32).toInt64.toUInt64 &&& Int64.toUInt64 63)).toInt64) = uL y / 65536 := fun y => uL_shr y (r := 16) (by decide)
  have s32 : ∀ y : Int64, uL ((y.toUInt64 >>> ((32 : Int32).toInt64.toUInt64 &&& Int64.toUInt64 63)).toInt64) = uL y / 4294967296 := fun y => uL_shr y (r := 32) (by decide)
  unfold f_Long_bitCount
  dsimp only
  rw [uL_i32]
  refine congrArg nI ?_
  obtain ⟨a1, a2⟩ := pA1 32 (uL x) (by rw [show (4 : Nat) ^ 32 = 2 ^ 64 from by decide +kernel]; exact hx)
  obtain ⟨b1, b2⟩ := pB1 32 (uL x)
  generalize e1 : x - (((x.toUInt64 >>> ((1 : Int32).toInt64.toUInt64 &&& Int64.toUInt64 63)).toInt64) &&& 6148914691236517205) = x1
  have u1 : uL x1 = P1 32 (uL x) := by
    rw [← e1, uL_sub (by rw [uL_and, s1, c1]; exact a1), uL_and, s1, c1]; exact a2
  generalize e2 : (x1 &&& 3689348814741910323) + (((x1.toUInt64 >>> ((2 : Int32).toInt64.toUInt64 &&& Int64.toUInt64 63)).toInt64) &&& 3689348814741910323) = x2
  have hx1 : uL x1 < 16 ^ 16 := by rw [show (16 : Nat) ^ 16 = 2 ^ 64 from by decide +kernel]; exact uL_lt x1
  have m1 : uL x1 &&& rpt 16 3 16 ≤ rpt 16 3 16 := Nat.and_le_right
  have m2 : (uL x1 / 4) &&& rpt 16 3 16 ≤ rpt 16 3 16 := Nat.and_le_right
  have r3 : rpt 16 3 16 = 3689348814741910323 := by decide +kernel
  have u2 : uL x2 = P2 16 (P1 32 (uL x)) := by
    rw [← e2, uL_add (by rw [uL_and, uL_and, s2, c2]; omega), uL_and, uL_and, s2, c2, pA2 16 _ hx1, u1]
  obtain ⟨d1, d2⟩ := pB2 16 (P1 32 (uL x)) b2
  generalize e3 : (x2 + ((x2.toUInt64 >>> ((4 : Int32).toInt64.toUInt64 &&& Int64.toUInt64 63)).toInt64)) &&& 1085102592571150095 = x3
  have hx2 : uL x2 < 2 ^ 63 := by
    have h9 : uL x2 = (uL x1 &&& rpt 16 3 16) + ((uL x1 / 4) &&& rpt 16 3 16) := by rw [u2, pA2 16 _ hx1, u1]
    rw [r3] at h9 m1 m2; omega
  have u3 : uL x3 = P3 8 (P2 16 (P1 32 (uL x))) := by
    rw [← e3, uL_and, uL_add (by rw [s4]; omega), s4, c3, u2]
    exact pA3 8 _ d2
  obtain ⟨f1, f2⟩ := pB3 8 (P2 16 (P1 32 (uL x))) d2
  rw [← u3] at f1 f2
  obtain ⟨g1, g2⟩ := pA4 (uL x3) f2
  have v4 : uL (x3 + ((x3.toUInt64 >>> ((8 : Int32).toInt64.toUInt64 &&& Int64.toUInt64 63)).toInt64)) = uL x3 + uL x3 / 256 := by rw [uL_add (by rw [s8]; omega), s8]
  generalize x3 + ((x3.toUInt64 >>> ((8 : Int32).toInt64.toUInt64 &&& Int64.toUInt64 63)).toInt64) = x4 at v4 ⊢
  have v5 : uL (x4 + ((x4.toUInt64 >>> ((16 : Int32).toInt64.toUInt64 &&& Int64.toUInt64 63)).toInt64)) = uL x4 + uL x4 / 65536 := by rw [uL_add (by rw [s16]; omega), s16]
  generalize x4 + ((x4.toUInt64 >>> ((16 : Int32).toInt64.toUInt64 &&& Int64.toUInt64 63)).toInt64) = x5 at v5 ⊢
  have v6 : uL (x5 + ((x5.toUInt64 >>> ((32 : Int32).toInt64.toUInt64 &&& Int64.toUInt64 63)).toInt64)) = uL x5 + uL x5 / 4294967296 := by rw [uL_add (by rw [s32]; omega), s32]
  rw [v6, v5, v4, g1, f1]
  exact d1.trans b1
/-! counting -/
def cN (p : Nat → Bool) : Nat → Nat
  | 0 => 0
  | k + 1 => cN p k + (p k).toNat
theorem cN_s (p : Nat → Bool) (k : Nat) : cN p (k + 1) = cN p k + (p k).toNat := rfl
theorem cN_le (p : Nat → Bool) : ∀ k, cN p k ≤ k := by
  intro k
  induction k with
  | zero => exact Nat.le_refl _
  | succ k ih => rw [cN_s]; cases p k <;> simp <;> omega
theorem cN_mono (p : Nat → Bool) {a b : Nat} (h : a ≤ b) : cN p a ≤ cN p b := by
  induction b with
  | zero => rw [show a = 0 by omega]; exact Nat.le_refl _
  | succ b ih =>
    rcases Nat.eq_or_lt_of_le h with e | e
    · rw [e]; exact Nat.le_refl _
    · rw [cN_s]; have := ih (by omega); omega
theorem cN_eq (p : Nat → Bool) {a b : Nat} (h : a ≤ b) (hz : ∀ i, a ≤ i → i < b → p i = false) : cN p b = cN p a := by
  induction b with
  | zero => rw [show a = 0 by omega]
  | succ b ih =>
    rcases Nat.eq_or_lt_of_le h with e | e
    · rw [e]
    · rw [cN_s, hz b (by omega) (by omega), ih (by omega) (fun i h1 h2 => hz i h1 (by omega))]; rfl
theorem cN_congr {p q : Nat → Bool} {k : Nat} (h : ∀ i, i < k → p i = q i) : cN p k = cN q k := by
  induction k with
  | zero => rfl
  | succ k ih => rw [cN_s, cN_s, h k (by omega), ih (fun i hi => h i (by omega))]
theorem cN_lt {p : Nat → Bool} {a b : Nat} (h : a < b) (ha : p a = true) : cN p a < cN p b := by
  have := cN_mono p (show a + 1 ≤ b by omega)
  rw [cN_s, ha] at this
  simp at this; omega
theorem dsum_cN : ∀ k n, dsum 2 k n = cN (fun i => n.testBit i) k := by
  have h : ∀ k n, cN (fun i => n.testBit i) (k + 1) = n % 2 + cN (fun i => (n / 2).testBit i) k := by
    intro k
    induction k with
    | zero =>
      intro n
      show 0 + (n.testBit 0).toNat = n % 2 + 0
      rw [Nat.testBit_zero]
      rcases Nat.mod_two_eq_zero_or_one n with e | e <;> rw [e] <;> rfl
    | succ k ih =>
      intro n
      rw [cN_s, ih n, cN_s]
      show n % 2 + _ + (n.testBit (k + 1)).toNat = _
      rw [Nat.testBit_succ]
      omega
  intro k
  induction k with
  | zero => intro n; rfl
  | succ k ih => intro n; rw [h k n, ← ih (n / 2)]; rfl
/-- counted from the other end -/
theorem cN_rev (p : Nat → Bool) : ∀ k, cN (fun i => p (k - 1 - i)) k = cN p k := by
  have h : ∀ k (q : Nat → Bool), cN q (k + 1) = (q 0).toNat + cN (fun i => q (i + 1)) k := by
    intro k
    induction k with
    | zero => intro q; show 0 + (q 0).toNat = (q 0).toNat + 0; omega
    | succ k ih => intro q; rw [cN_s, ih q, cN_s]; omega
  intro k
  induction k with
  | zero => rfl
  | succ k ih =>
    rw [h, cN_s, show k + 1 - 1 - 0 = k by omega, ← ih]
    have e : cN (fun i => p (k + 1 - 1 - (i + 1))) k = cN (fun i => p (k - 1 - i)) k := cN_congr (fun i hi => by show p _ = p _; rw [show k + 1 - 1 - (i + 1) = k - 1 - i by omega])
    rw [e]; omega
/-- the number of set bits, the highest counted first -/
theorem bc_c (x : Int64) : f_Long_bitCount x = nI (cN (fun i => x.toBitVec.getLsbD (63 - i)) 64) := by
  rw [bc_f, dsum_cN]
  refine congrArg nI ?_
  have := cN_rev (fun j => x.toBitVec.getLsbD j) 64
  rw [show (fun i => (fun j => x.toBitVec.getLsbD j) (64 - 1 - i)) = (fun i => x.toBitVec.getLsbD (63 - i)) from rfl] at this
  rw [this]
  rfl
/-! the changes of a line -/
def isC (of : Nat → Bool) (x : Nat) : Bool := of x != (decide (0 < x) && of (x - 1))
def chR (wd : Nat) (ch : (Nat → Int32) × Int32) (of : Nat → Bool) : Prop := ch.2 = nI (cN (isC of) wd) ∧ ∀ x, x < wd → isC of x = true → ch.1 (cN (isC of) x) = nI x
theorem one_sl (q : Nat) (hq : q < 64) (j : Nat) : ((1 : Int64) <<< ((63 - nI q).toInt64 &&& 63)).toBitVec.getLsbD j = decide (j = 63 - q) := by
  rw [show (63 : Int32) - nI q = nI (63 - q) from pk_sub (a := 63) (by omega), sl_b _ (by omega), one_b]
  by_cases h : j = 63 - q
  · rw [decide_eq_true h, decide_eq_true (show j < 64 by omega), decide_eq_true (show 63 - q ≤ j by omega), decide_eq_true (show j - (63 - q) = 0 by omega)]; rfl
  · rw [decide_eq_false h]
    by_cases h2 : 63 - q ≤ j
    · rw [decide_eq_false (show ¬ j - (63 - q) = 0 by omega)]; simp
    · rw [decide_eq_false h2]; simp
theorem clr_b (mo : Int64) (q : Nat) (hq : q < 64) (j : Nat) (hj : j < 64) : (mo &&& (((1 : Int64) <<< ((63 - nI q).toInt64 &&& 63)) ^^^ (-1))).toBitVec.getLsbD j = (mo.toBitVec.getLsbD j && !decide (j = 63 - q)) := by
  rw [and_b, xor_b, one_sl q hq, m1_b, decide_eq_true hj]
  simp
theorem ac_9 {wd fr : Nat} (hw : wd ≤ 10000) (hfr : fr ≤ 10000) (ch : (Nat → Int32) × Int32) (cg : Int64) (P : Nat → Bool) (hP : ∀ i, i < 64 → cg.toBitVec.getLsbD (63 - i) = P (fr + i)) :
    ∀ (nn fuel s : Nat) (g : Nat → Int32) (mo : Int64), s ≤ 64 → (∀ i, i < 64 → mo.toBitVec.getLsbD (63 - i) = (P (fr + i) && decide (s ≤ i))) → nn + cN P (fr + s) = cN P (fr + 64) → nn < fuel →
    ∃ g' : Nat → Int32, l_Line_addChanges_9 wd ch (nI fr) cg fuel g (nI (cN P (min (fr + s) wd))) mo (nI nn) = (g', nI (cN P (min (fr + 64) wd))) ∧ (∀ j, j < cN P (min (fr + s) wd) → g' j = g j) ∧ ∀ x, fr + s ≤ x → x < fr + 64 → x < wd → P x = true → g' (cN P x) = nI x := by
  intro nn
  induction nn with
  | zero =>
    intro fuel s g mo hs hmo hn hf
    obtain ⟨f, rfl⟩ : ∃ f, fuel = f + 1 := ⟨fuel - 1, by omega⟩
    simp only [l_Line_addChanges_9]
    rw [if_pos (by decide)]
    have hz : ∀ x, fr + s ≤ x → x < fr + 64 → P x = false := by
      intro x h1 h2
      cases hp : P x with
      | false => rfl
      | true =>
        have a := cN_lt h2 hp
        have b := cN_mono P h1
        omega
    refine ⟨g, ?_, fun _ _ => rfl, fun x h1 h2 _ h3 => by rw [hz x h1 h2] at h3; cases h3⟩
    have : cN P (min (fr + 64) wd) = cN P (min (fr + s) wd) := cN_eq P (by omega) (fun i h1 h2 => by
      have : fr + s ≤ i := by omega
      exact hz i this (by omega))
    rw [this]
  | succ nn ih =>
    intro fuel s g mo hs hmo hn hf
    obtain ⟨f, rfl⟩ : ∃ f, fuel = f + 1 := ⟨fuel - 1, by omega⟩
    have hne : mo ≠ 0 := by
      intro e
      have hz : ∀ x, fr + s ≤ x → x < fr + 64 → P x = false := by
        intro x h1 h2
        have := hmo (x - fr) (by omega)
        rw [e, z_b, show fr + (x - fr) = x by omega, decide_eq_true (show s ≤ x - fr by omega)] at this
        simpa using this.symm
      have := cN_eq P (show fr + s ≤ fr + 64 by omega) hz
      omega
    obtain ⟨q, hq, eq, hset, hclr⟩ := nlzL_f hne
    have hPq : P (fr + q) = true ∧ s ≤ q := by
      have := hmo q hq
      rw [hset] at this
      have h9 : (P (fr + q) && decide (s ≤ q)) = true := this.symm
      rw [Bool.and_eq_true, decide_eq_true_eq] at h9
      exact h9
    have hbefore : ∀ x, fr + s ≤ x → x < fr + q → P x = false := by
      intro x h1 h2
      have := hmo (x - fr) (by omega)
      rw [hclr _ (by omega), show fr + (x - fr) = x by omega, decide_eq_true (show s ≤ x - fr by omega)] at this
      simpa using this.symm
    have hcq : cN P (fr + q) = cN P (fr + s) := cN_eq P (by omega) hbefore
    have hcq1 : cN P (fr + (q + 1)) = cN P (fr + s) + 1 := by rw [← Nat.add_assoc, cN_s, hPq.1, hcq]; rfl
    have hmo' : ∀ i, i < 64 → (mo &&& (((1 : Int64) <<< ((63 - nI q).toInt64 &&& 63)) ^^^ (-1))).toBitVec.getLsbD (63 - i) = (P (fr + i) && decide (q + 1 ≤ i)) := by
      intro i hi
      rw [clr_b mo q hq _ (by omega), hmo i hi]
      by_cases h1 : i = q
      · rw [decide_eq_true (show 63 - i = 63 - q by omega), decide_eq_false (show ¬ q + 1 ≤ i by omega)]; simp
      · rw [decide_eq_false (show ¬ 63 - i = 63 - q by omega)]
        by_cases h2 : q + 1 ≤ i
        · rw [decide_eq_true h2, decide_eq_true (show s ≤ i by omega)]; simp
        · rw [decide_eq_false h2]
          by_cases h3 : s ≤ i
          · rw [hbefore (fr + i) (by omega) (by omega)]; simp
          · rw [decide_eq_false h3]; simp
    have en : nI (nn + 1) + (-1) = nI nn := pk_m1 nn
    simp only [l_Line_addChanges_9]
    have hKle : cN P (min (fr + s) wd) ≤ min (fr + s) wd := cN_le P _
    rw [if_neg (show ¬ nI (nn + 1) ≤ 0 from nI_nle (by omega) (by have := cN_le P (fr + 64); omega)), eq, nI_add, en]
    by_cases hwd : wd ≤ fr + q
    · rw [if_pos (nI_le hwd (by omega))]
      have hK : cN P (min (fr + s) wd) = cN P (min (fr + (q + 1)) wd) := by
        rw [show min (fr + (q + 1)) wd = wd by omega]
        exact (cN_eq P (by omega) (fun i h1 h2 => hbefore i (by omega) (by omega))).symm
      obtain ⟨g', e, h1, h2⟩ := ih f (q + 1) g _ (by omega) hmo' (by omega) (by omega)
      rw [← hK] at e h1
      refine ⟨g', e, h1, fun x a b c d => ?_⟩
      rcases Nat.lt_or_ge x (fr + (q + 1)) with h9 | h9
      · rw [hbefore x a (by omega)] at d; cases d
      · exact h2 x h9 b c d
    · rw [if_neg (nI_ge (by omega) (by omega)), if_neg (nI_ge (by omega) (by omega)), nI_clamp (by omega), nI_1]
      have hm1 : min (fr + s) wd = fr + s := by omega
      have hK : cN P (min (fr + (q + 1)) wd) = cN P (min (fr + s) wd) + 1 := by rw [show min (fr + (q + 1)) wd = fr + (q + 1) by omega, hm1, hcq1]
      obtain ⟨g', e, h1, h2⟩ := ih f (q + 1) (upd g (cN P (min (fr + s) wd)) (nI (fr + q))) _ (by omega) hmo' (by omega) (by omega)
      rw [hK] at e h1
      refine ⟨g', e, fun j hj => ?_, fun x a b c d => ?_⟩
      · rw [h1 j (by omega), pk_un (by omega)]
      · rcases Nat.lt_or_ge x (fr + (q + 1)) with h9 | h9
        · rcases Nat.lt_or_ge x (fr + q) with h8 | h8
          · rw [hbefore x a h8] at d; cases d
          · have ex : x = fr + q := by omega
            subst ex
            have e9 : cN P (fr + q) = cN P (min (fr + s) wd) := by rw [hcq, hm1]
            rw [e9, h1 _ (by omega), pk_us]
        · exact h2 x h9 b c d
theorem ac_f {wd fr : Nat} (hw : wd ≤ 10000) (hfr : fr ≤ 10000) (g : Nat → Int32) (cg : Int64) (P : Nat → Bool) (hP : ∀ i, i < 64 → cg.toBitVec.getLsbD (63 - i) = P (fr + i)) :
    ∃ g' : Nat → Int32, f_Line_addChanges wd (g, nI (cN P (min fr wd))) (nI fr) cg = (g', nI (cN P (min (fr + 64) wd))) ∧ (∀ j, j < cN P (min fr wd) → g' j = g j) ∧ ∀ x, fr ≤ x → x < fr + 64 → x < wd → P x = true → g' (cN P x) = nI x := by
  have h64 : cN (fun i => cg.toBitVec.getLsbD (63 - i)) 64 + cN P (fr + 0) = cN P (fr + 64) := by
    have : ∀ k, k ≤ 64 → cN (fun i => cg.toBitVec.getLsbD (63 - i)) k + cN P fr = cN P (fr + k) := by
      intro k
      induction k with
      | zero => intro _; show 0 + _ = _; rw [Nat.zero_add]; rfl
      | succ k ih =>
        intro hk
        rw [cN_s, ← Nat.add_assoc fr k 1, cN_s, ← ih (by omega), hP k (by omega)]
        omega
    exact this 64 (by decide)
  have hle : cN (fun i => cg.toBitVec.getLsbD (63 - i)) 64 ≤ 64 := cN_le _ _
  unfold f_Line_addChanges
  dsimp only
  rw [bc_c]
  exact ac_9 hw hfr (g, nI (cN P (min fr wd))) cg P hP _ _ 0 g cg (by omega) (fun i hi => by rw [hP i hi, decide_eq_true (Nat.zero_le i)]; simp) h64 (by rw [nI_toInt (by omega)]; omega)
theorem fc_9 {wd : Nat} (hw : wd ≤ 10000) (pf : Nat → Int64) (ch : (Nat → Int32) × Int32) : ∀ (m fuel k : Nat) (g : Nat → Int32) (lf : Int64), m + k = (wd + 63) / 64 → m < fuel → (lf = if 0 < k ∧ gb pf (64 * k - 1) = true then 1 else 0) →
    (∀ x, x < 64 * k → x < wd → isC (gb pf) x = true → g (cN (isC (gb pf)) x) = nI x) →
    ∃ g' : Nat → Int32, l_Line_findChanges_9 wd pf ch fuel g (nI (cN (isC (gb pf)) (min (64 * k) wd))) lf (nI k) = (g', nI (cN (isC (gb pf)) wd)) ∧ ∀ x, x < wd → isC (gb pf) x = true → g' (cN (isC (gb pf)) x) = nI x := by
  intro m
  induction m with
  | zero =>
    intro fuel k g lf hm hf hlf hg
    obtain ⟨f, rfl⟩ : ∃ f, fuel = f + 1 := ⟨fuel - 1, by omega⟩
    simp only [l_Line_findChanges_9]
    rw [if_pos (nI_le (by omega) (by omega)), show min (64 * k) wd = wd by omega]
    exact ⟨g, rfl, fun x hx => hg x (by omega) hx⟩
  | succ m ih =>
    intro fuel k g lf hm hf hlf hg
    obtain ⟨f, rfl⟩ : ∃ f, fuel = f + 1 := ⟨fuel - 1, by omega⟩
    have e64 : (64 : Int32) * nI k = nI (64 * k) := pk_mul 64 k
    have hP : ∀ i, i < 64 → ((pf k) ^^^ ((((pf k).toUInt64 >>> ((1 : Int32).toInt64.toUInt64 &&& Int64.toUInt64 63)).toInt64) ||| (lf <<< ((63 : Int32).toInt64 &&& 63)))).toBitVec.getLsbD (63 - i) = isC (gb pf) (64 * k + i) := by
      intro i hi
      have h1 := su_b (pf k) (r := 1) (by decide) (63 - i)
      have h2 := sl_b lf (r := 63) (by decide) (63 - i)
      have h1' : (((pf k).toUInt64 >>> ((1 : Int32).toInt64.toUInt64 &&& Int64.toUInt64 63)).toInt64).toBitVec.getLsbD (63 - i) = (pf k).toBitVec.getLsbD (1 + (63 - i)) := h1
      have h2' : (lf <<< ((63 : Int32).toInt64 &&& 63)).toBitVec.getLsbD (63 - i) = (decide (63 - i < 64) && decide (63 ≤ 63 - i) && lf.toBitVec.getLsbD (63 - i - 63)) := h2
      rw [xor_b, or_b, h1', h2']
      have g0 : gb pf (64 * k + i) = (pf k).toBitVec.getLsbD (63 - i) := by
        show (pf ((64 * k + i) / 64)).toBitVec.getLsbD (63 - (64 * k + i) % 64) = _
        rw [show (64 * k + i) / 64 = k by omega, show (64 * k + i) % 64 = i by omega]
      unfold isC
      rw [g0]
      cases i with
      | zero =>
        have hout : (pf k).toBitVec.getLsbD (1 + (63 - 0)) = false := BitVec.getLsbD_of_ge _ _ (by decide)
        rw [hout, hlf]
        by_cases hk : 0 < k ∧ gb pf (64 * k - 1) = true
        · rw [if_pos hk, one_b, decide_eq_true (show 0 < 64 * k + 0 by omega), show 64 * k + 0 - 1 = 64 * k - 1 by omega, hk.2]
          cases (pf k).toBitVec.getLsbD (63 - 0) <;> rfl
        · rw [if_neg hk, z_b]
          rcases Nat.eq_zero_or_pos k with h0 | h0
          · rw [decide_eq_false (show ¬ 0 < 64 * k + 0 by omega)]
            cases (pf k).toBitVec.getLsbD (63 - 0) <;> rfl
          · have : gb pf (64 * k - 1) = false := by
              cases h : gb pf (64 * k - 1) with
              | false => rfl
              | true => exact absurd ⟨h0, h⟩ hk
            rw [show 64 * k + 0 - 1 = 64 * k - 1 by omega, this]
            cases (pf k).toBitVec.getLsbD (63 - 0) <;> simp
      | succ i =>
        have g1 : gb pf (64 * k + (i + 1) - 1) = (pf k).toBitVec.getLsbD (63 - i) := by
          show (pf ((64 * k + (i + 1) - 1) / 64)).toBitVec.getLsbD (63 - (64 * k + (i + 1) - 1) % 64) = _
          rw [show (64 * k + (i + 1) - 1) / 64 = k by omega, show (64 * k + (i + 1) - 1) % 64 = i by omega]
        rw [g1, decide_eq_true (show 0 < 64 * k + (i + 1) by omega), decide_eq_false (show ¬ 63 ≤ 63 - (i + 1) by omega), show 1 + (63 - (i + 1)) = 63 - i by omega]
        cases (pf k).toBitVec.getLsbD (63 - (i + 1)) <;> cases (pf k).toBitVec.getLsbD (63 - i) <;> simp
    obtain ⟨g1, e1, h1, h2⟩ := ac_f hw (fr := 64 * k) (by omega) g _ (isC (gb pf)) hP
    simp only [l_Line_findChanges_9]
    rw [if_neg (nI_ge (by omega) (by omega)), nI_clamp (by omega), nI_1, e64, e1]
    refine ih f (k + 1) g1 (pf k &&& 1) (by omega) (by omega) ?_ (fun x hx hxw hc => ?_)
    · apply i64_ext
      intro j hj
      have g0 : gb pf (64 * (k + 1) - 1) = (pf k).toBitVec.getLsbD 0 := by
        show (pf ((64 * (k + 1) - 1) / 64)).toBitVec.getLsbD (63 - (64 * (k + 1) - 1) % 64) = _
        rw [show (64 * (k + 1) - 1) / 64 = k by omega, show 63 - (64 * (k + 1) - 1) % 64 = 0 by omega]
      rw [and_b, one_b, g0]
      by_cases h : (pf k).toBitVec.getLsbD 0 = true
      · rw [if_pos ⟨by omega, h⟩, one_b]
        by_cases hj0 : j = 0
        · subst hj0; rw [h]; rfl
        · rw [decide_eq_false hj0]; simp
      · rw [if_neg (fun h9 => h h9.2), z_b]
        by_cases hj0 : j = 0
        · subst hj0; rw [Bool.eq_false_iff.mpr h]; rfl
        · rw [decide_eq_false hj0]; simp
    · rcases Nat.lt_or_ge x (64 * k) with h9 | h9
      · rw [h1 _ (by rw [show min (64 * k) wd = 64 * k by omega]; exact cN_lt h9 hc)]
        exact hg x h9 hxw hc
      · exact h2 x h9 (by omega) hxw hc
/-- the changes as they are looked for -/
theorem fc_R {wd : Nat} (hw : wd ≤ 10000) {pf : Nat → Int64} {of : Nat → Bool} (h : linR wd pf of) (ch : (Nat → Int32) × Int32) : chR wd (f_Line_findChanges wd pf ch) of := by
  have hc : ∀ x, x < wd → isC (gb pf) x = isC of x := by
    intro x hx
    unfold isC
    rw [h.1 x hx]
    rcases Nat.eq_zero_or_pos x with h0 | h0
    · rw [decide_eq_false (by omega)]; rfl
    · rw [h.1 (x - 1) (by omega)]
  unfold f_Line_findChanges
  rw [nI_toInt (by omega), ti_0]
  obtain ⟨g', e, hg⟩ := fc_9 hw pf ch ((wd + 63) / 64) ((((wd + 63) / 64 : Nat) : Int) - 0).toNat.succ 0 ch.1 0 (by omega) (by omega) (by simp) (fun x hx => by omega)
  have e' : l_Line_findChanges_9 wd pf ch (((((wd + 63) / 64 : Nat) : Int) - 0).toNat + 1) ch.1 0 0 0 = (g', nI (cN (isC (gb pf)) wd)) := by
    have hz : nI (cN (isC (gb pf)) (min (64 * 0) wd)) = 0 := by rw [show min (64 * 0) wd = 0 by omega]; rfl
    rw [hz] at e
    exact e
  rw [e']
  refine ⟨by rw [cN_congr hc], fun x hx hi => ?_⟩
  have := hg x hx (by rw [hc x hx]; exact hi)
  rw [cN_congr (q := isC of) (fun i hi => hc i (by omega))] at this
  exact this
/-! the change of a number, and the spot -/
theorem cN_at {p : Nat → Bool} : ∀ {k r : Nat}, r < cN p k → ∃ x, x < k ∧ p x = true ∧ cN p x = r := by
  intro k
  induction k with
  | zero => intro r h; exact absurd h (Nat.not_lt_zero _)
  | succ k ih =>
    intro r h
    rcases Nat.lt_or_ge r (cN p k) with h1 | h1
    · obtain ⟨x, a, b, c⟩ := ih h1
      exact ⟨x, by omega, b, c⟩
    · rw [cN_s] at h
      cases hp : p k with
      | false => rw [hp] at h; simp at h; omega
      | true => rw [hp] at h; simp at h; exact ⟨k, by omega, hp, by omega⟩
/-- the place of the change number r; wd if there is none -/
def plN (of : Nat → Bool) (wd r : Nat) : Nat := fst (fun x => isC of x && (cN (isC of) x == r)) wd 0
theorem plN_lt {of : Nat → Bool} {wd r : Nat} (h : r < cN (isC of) wd) : plN of wd r < wd ∧ isC of (plN of wd r) = true ∧ cN (isC of) (plN of wd r) = r := by
  obtain ⟨x, hx, hp, hc⟩ := cN_at h
  have e : plN of wd r = x := fst_un (Nat.zero_le _) (by omega) (fun i _ hi => by
    cases hi2 : isC of i with
    | false => rfl
    | true =>
      have := cN_lt hi hi2
      rw [Bool.true_and, beq_eq_false_iff_ne]; omega) (fun _ => by rw [hp, Bool.true_and, beq_iff_eq]; exact hc)
  rw [e]; exact ⟨hx, hp, hc⟩
theorem plN_ge {of : Nat → Bool} {wd r : Nat} (h : cN (isC of) wd ≤ r) : plN of wd r = wd :=
  fst_un (Nat.zero_le _) (Nat.le_refl _) (fun i _ hi => by
    cases hi2 : isC of i with
    | false => rfl
    | true =>
      have := cN_lt hi hi2
      rw [Bool.true_and, beq_eq_false_iff_ne]; omega) (fun h => absurd h (Nat.lt_irrefl _))
theorem plN_nx {of : Nat → Bool} {wd x : Nat} (hx : x ≤ wd) : plN of wd (cN (isC of) x) = fst (isC of) wd x := by
  obtain ⟨a, b, c, d⟩ := fst_sp (isC of) hx
  refine fst_un (Nat.zero_le _) b (fun i _ hi => ?_) (fun hlt => ?_)
  · rcases Nat.lt_or_ge i x with h | h
    · cases hi2 : isC of i with
      | false => rfl
      | true =>
        have := cN_lt h hi2
        rw [Bool.true_and, beq_eq_false_iff_ne]; omega
    · rw [c i h hi]; rfl
  · rw [d hlt, Bool.true_and, beq_iff_eq]
    exact cN_eq _ a c
theorem plO_f {wd : Nat} (hw : wd ≤ 10000) {ch : (Nat → Int32) × Int32} {of : Nat → Bool} (h : chR wd ch of) {r : Nat} (hr : r < 2 ^ 31) : f_Line_placeOf wd ch (nI r) = nI (plN of wd r) := by
  have hcw := cN_le (isC of) wd
  unfold f_Line_placeOf
  rw [if_neg (nI_pos hr), h.1]
  by_cases h1 : cN (isC of) wd ≤ r
  · rw [if_pos (nI_le h1 hr), plN_ge h1]
  · rw [if_neg (nI_ge (by omega) (by omega)), if_pos (nI_lt (by omega) (by omega)), nI_clamp hr]
    obtain ⟨a, b, c⟩ := plN_lt (of := of) (wd := wd) (r := r) (by omega)
    have := h.2 _ a b
    rw [c] at this
    exact this
theorem fro_2 {wd : Nat} (hw : wd ≤ 10000) {ch : (Nat → Int32) × Int32} {of : Nat → Bool} (h : chR wd ch of) {x i0 : Int32} {X : Nat} (hX : x + 1 = nI X) (hX2 : X ≤ wd + 1) : ∀ (m fuel k : Nat), m + k = cN (isC of) (min X wd) → m < fuel → l_Line_firstRightOf_2 wd ch x i0 fuel (nI k) = nI (cN (isC of) (min X wd)) := by
  have hcw := cN_le (isC of) wd
  have hxi : x.toInt = (X : Int) - 1 := by
    have hb := ti_b x
    have h9 : (x + 1).toInt = X := by rw [hX, nI_toInt (by omega)]
    rcases Int.lt_or_le (x.toInt + 1) 2147483648 with h8 | h8
    · rw [ti_add (by rw [ti_1]; omega) (by rw [ti_1]; omega), ti_1] at h9; omega
    · have : x = 2147483647 := Int32.toInt_inj.mp (by rw [show (2147483647 : Int32).toInt = 2147483647 from rfl]; omega)
      rw [this, show ((2147483647 : Int32) + 1).toInt = -2147483648 from by decide] at h9; omega
  intro m
  induction m with
  | zero =>
    intro fuel k hm hf
    obtain ⟨f, rfl⟩ : ∃ f, fuel = f + 1 := ⟨fuel - 1, by omega⟩
    have hk : k = cN (isC of) (min X wd) := by omega
    have hkw : k ≤ cN (isC of) wd := by rw [hk]; exact cN_mono _ (by omega)
    simp only [l_Line_firstRightOf_2]
    rw [h.1, plO_f hw h (by omega)]
    by_cases h1 : cN (isC of) wd ≤ k
    · rw [if_pos (nI_le h1 (by omega)), hk]
    · rw [if_neg (nI_ge (by omega) (by omega))]
      have hXw : X < wd := by
        rcases Nat.lt_or_ge X wd with h9 | h9
        · exact h9
        · rw [show min X wd = wd by omega] at hk; omega
      have hp : X ≤ plN of wd k := by
        rw [hk, show min X wd = X by omega, plN_nx (by omega)]
        exact (fst_sp (isC of) (show X ≤ wd by omega)).1
      have hp2 := (plN_lt (of := of) (wd := wd) (r := k) (by omega)).1
      rw [if_pos (by rw [ti_lt, hxi, nI_toInt (by omega)]; omega), hk]
  | succ m ih =>
    intro fuel k hm hf
    obtain ⟨f, rfl⟩ : ∃ f, fuel = f + 1 := ⟨fuel - 1, by omega⟩
    have hkX : k < cN (isC of) (min X wd) := by omega
    have hmono := cN_mono (isC of) (show min X wd ≤ wd by omega)
    simp only [l_Line_firstRightOf_2]
    rw [h.1, plO_f hw h (by omega), if_neg (nI_ge (by omega) (by omega))]
    obtain ⟨a, b, c⟩ := plN_lt (of := of) (wd := wd) (r := k) (by omega)
    have hp : plN of wd k < min X wd := by
      rcases Nat.lt_or_ge (plN of wd k) (min X wd) with h9 | h9
      · exact h9
      · have := cN_mono (isC of) h9; omega
    rw [if_neg (by rw [ti_lt, hxi, nI_toInt (by omega)]; omega), nI_1]
    exact ih f (k + 1) (by omega) (by omega)
theorem fro_f {wd : Nat} (hw : wd ≤ 10000) {ch : (Nat → Int32) × Int32} {of : Nat → Bool} (h : chR wd ch of) {x : Int32} {X i0 : Nat} (hX : x + 1 = nI X) (hX2 : X ≤ wd + 1) (hi : i0 ≤ cN (isC of) (min X wd)) : f_Line_firstRightOf wd ch x (nI i0) = nI (cN (isC of) (min X wd)) := by
  have hcw := cN_le (isC of) wd
  have hmono := cN_mono (isC of) (show min X wd ≤ wd by omega)
  unfold f_Line_firstRightOf
  rw [h.1, nI_toInt (by omega), nI_toInt (by omega)]
  exact fro_2 hw h hX hX2 (cN (isC of) (min X wd) - i0) _ i0 (by omega) (by omega)
theorem par (of : Nat → Bool) : ∀ x, cN (isC of) (x + 1) % 2 = (of x).toNat := by
  intro x
  induction x with
  | zero =>
    show (0 + (isC of 0).toNat) % 2 = _
    unfold isC
    cases of 0 <;> rfl
  | succ x ih =>
    rw [cN_s]
    unfold isC at ih ⊢
    rw [decide_eq_true (show 0 < x + 1 by omega), show x + 1 - 1 = x by omega]
    cases h1 : of (x + 1) <;> cases h2 : of x <;> rw [h2] at ih <;> simp at ih ⊢ <;> omega
theorem par_c {of : Nat → Bool} {x : Nat} (h : isC of x = true) : cN (isC of) x % 2 = (!of x).toNat := by
  have := par of x
  rw [cN_s, h] at this
  cases ho : of x <;> rw [ho] at this <;> simp at this ⊢ <;> omega
/-- the next dot of the other colour is the next change -/
theorem nx_c {of : Nat → Bool} {wd x : Nat} (hx : x ≤ wd) {c : Bool} (hc : c = (decide (0 < x) && of (x - 1))) : fst (fun i => of i == !c) wd x = fst (isC of) wd x := by
  obtain ⟨a, b, h1, h2⟩ := fst_sp (isC of) hx
  have hcol : ∀ i, x ≤ i → i ≤ fst (isC of) wd x → (decide (0 < i) && of (i - 1)) = c := by
    intro i
    induction i with
    | zero => intro h3 _; rw [show x = 0 by omega] at hc; rw [hc]
    | succ i ih =>
      intro h3 h4
      rcases Nat.eq_or_lt_of_le h3 with e | e
      · rw [← e, hc]
      · have h5 := ih (by omega) (by omega)
        have h6 := h1 i (by omega) (by omega)
        unfold isC at h6
        rw [h5] at h6
        rw [decide_eq_true (show 0 < i + 1 by omega), show i + 1 - 1 = i by omega, Bool.true_and]
        cases ho : of i <;> cases hcc : c <;> rw [ho, hcc] at h6 <;> simp at h6 ⊢
  refine fst_un a b (fun i h3 h4 => ?_) (fun hlt => ?_)
  · have h5 := hcol i h3 (by omega)
    have h6 := h1 i h3 h4
    unfold isC at h6
    rw [h5] at h6
    show (of i == !c) = false
    cases ho : of i <;> cases hcc : c <;> rw [ho, hcc] at h6 <;> simp at h6 ⊢
  · have h5 := hcol _ a (Nat.le_refl _)
    have h6 : (of (fst (isC of) wd x) != (decide (0 < fst (isC of) wd x) && of (fst (isC of) wd x - 1))) = true := h2 hlt
    rw [h5] at h6
    show (of (fst (isC of) wd x) == !c) = true
    cases ho : of (fst (isC of) wd x) <;> cases hcc : c <;> rw [ho, hcc] at h6 <;> simp at h6 ⊢
def b1N (of : Nat → Bool) (wd X : Nat) (bk : Bool) : Nat := fst (chg of (!bk)) wd (min X wd)
def b2N (of : Nat → Bool) (wd X : Nat) (bk : Bool) : Nat := if b1N of wd X bk = wd then wd else fst (fun i => of i == bk) wd (b1N of wd X bk + 1)
theorem spot_b {of : Nat → Bool} {wd X : Nat} (bk : Bool) : b1N of wd X bk = plN of wd (cN (isC of) (min X wd) + (if (cN (isC of) (min X wd) % 2 == 1) = bk then 0 else 1)) ∧
    b2N of wd X bk = plN of wd (cN (isC of) (min X wd) + (if (cN (isC of) (min X wd) % 2 == 1) = bk then 0 else 1) + 1) := by
  obtain ⟨Y, hY⟩ : ∃ Y, Y = min X wd := ⟨_, rfl⟩
  have hYw : Y ≤ wd := by omega
  obtain ⟨r, hr⟩ : ∃ r, r = cN (isC of) Y := ⟨_, rfl⟩
  have hb1 : b1N of wd X bk = fst (chg of (!bk)) wd Y := by unfold b1N; rw [hY]
  rw [← hY, ← hr]
  obtain ⟨a, b, c, d⟩ := fst_sp (isC of) hYw
  have hnx := plN_nx (of := of) hYw
  rw [← hr] at hnx
  have hchg : ∀ i q, chg of q i = (isC of i && (of i == q)) := fun i q => rfl
  -- b1
  have e1 : b1N of wd X bk = plN of wd (r + (if (r % 2 == 1) = bk then 0 else 1)) := by
    rw [hb1]
    by_cases hpar : (r % 2 == 1) = bk
    · rw [if_pos hpar, Nat.add_zero, hnx]
      refine fst_un a b (fun i h1 h2 => by rw [hchg, c i h1 h2]; rfl) (fun hlt => ?_)
      have h5 := par_c (d hlt)
      rw [cN_eq _ a c, ← hr] at h5
      rw [hchg, d hlt, Bool.true_and]
      cases ho : of (fst (isC of) wd Y) <;> cases bk <;> rw [ho] at h5 <;> simp at h5 hpar ⊢ <;> omega
    · rw [if_neg hpar]
      rcases Nat.lt_or_ge (fst (isC of) wd Y) wd with hlt | hge
      · have h5 := par_c (d hlt)
        have ecn : cN (isC of) (fst (isC of) wd Y) = r := by rw [cN_eq _ a c, ← hr]
        rw [ecn] at h5
        have hcol : of (fst (isC of) wd Y) = bk := by
          cases ho : of (fst (isC of) wd Y) <;> cases bk <;> rw [ho] at h5 <;> simp at h5 hpar ⊢ <;> omega
        have ecn1 : cN (isC of) (fst (isC of) wd Y + 1) = r + 1 := by rw [cN_s, d hlt, ecn]; rfl
        have hnx2 := plN_nx (of := of) (wd := wd) (x := fst (isC of) wd Y + 1) (by omega)
        rw [ecn1] at hnx2
        rw [hnx2]
        obtain ⟨a2, b2, c2, d2⟩ := fst_sp (isC of) (show fst (isC of) wd Y + 1 ≤ wd by omega)
        have hn := nx_c (of := of) (wd := wd) (x := fst (isC of) wd Y + 1) (by omega) (c := bk) (by rw [decide_eq_true (show 0 < fst (isC of) wd Y + 1 by omega), Nat.add_sub_cancel, hcol]; rfl)
        refine fst_un (by omega) b2 (fun i h1 h2 => ?_) (fun hlt2 => ?_)
        · rw [hchg]
          rcases Nat.lt_or_ge i (fst (isC of) wd Y) with h3 | h3
          · rw [c i h1 h3]; rfl
          · rcases Nat.eq_or_lt_of_le h3 with h4 | h4
            · rw [← h4, hcol]; cases bk <;> simp
            · rw [c2 i (by omega) h2]; rfl
        · rw [hchg, d2 hlt2, Bool.true_and]
          rw [← hn] at hlt2 ⊢
          exact (fst_sp (fun i => of i == !bk) (show fst (isC of) wd Y + 1 ≤ wd by omega)).2.2.2 hlt2
      · have hcw : cN (isC of) wd ≤ r := by
          rw [hr]; exact Nat.le_of_eq (cN_eq _ hYw (fun i h1 h2 => c i h1 (by omega)))
        rw [plN_ge (by omega)]
        exact fst_un hYw (Nat.le_refl _) (fun i h1 h2 => by rw [hchg, c i h1 (by omega)]; rfl) (fun h => absurd h (Nat.lt_irrefl _))
  refine ⟨e1, ?_⟩
  unfold b2N
  obtain ⟨i, hi⟩ : ∃ i, i = r + (if (r % 2 == 1) = bk then 0 else 1) := ⟨_, rfl⟩
  rw [← hi] at e1 ⊢
  rcases Nat.lt_or_ge i (cN (isC of) wd) with hlt | hge
  · obtain ⟨q1, q2, q3⟩ := plN_lt hlt
    rw [← e1] at q1 q2 q3
    rw [if_neg (by omega)]
    have hcol : of (b1N of wd X bk) = !bk := by
      have h1 := par_c q2
      rw [q3] at h1
      by_cases hpar : (r % 2 == 1) = bk
      · rw [if_pos hpar] at hi
        cases ho : of (b1N of wd X bk) <;> cases bk <;> rw [ho] at h1 <;> simp at h1 hpar ⊢ <;> omega
      · rw [if_neg hpar] at hi
        cases ho : of (b1N of wd X bk) <;> cases bk <;> rw [ho] at h1 <;> simp at h1 hpar ⊢ <;> omega
    have hn := nx_c (of := of) (wd := wd) (x := b1N of wd X bk + 1) (by omega) (c := !bk) (by rw [decide_eq_true (show 0 < b1N of wd X bk + 1 by omega), Nat.add_sub_cancel, hcol]; rfl)
    rw [Bool.not_not] at hn
    rw [hn, ← plN_nx (by omega), cN_s, q2, q3]
    rfl
  · rw [plN_ge hge] at e1
    rw [if_pos e1, plN_ge (by omega)]
/-- where the spot stands -/
theorem move_f {wd : Nat} (hw : wd ≤ 10000) {ch : (Nat → Int32) × Int32} {of : Nat → Bool} (h : chR wd ch of) {to : Int32} {X i0 : Nat} (hX : to + 1 = nI X) (hX2 : X ≤ wd + 1) (hi : i0 ≤ cN (isC of) (min X wd)) (q : Int32 × Bool × Int32 × Int32) (bk : Bool) :
    f_Spot_move wd ch (nI i0, q) to bk = (nI (cN (isC of) (min X wd)), to, bk, nI (b1N of wd X bk), nI (b2N of wd X bk)) := by
  have hcw := cN_le (isC of) wd
  have hmono := cN_mono (isC of) (show min X wd ≤ wd by omega)
  obtain ⟨hb1, hb2⟩ := spot_b (of := of) (wd := wd) (X := X) bk
  obtain ⟨r, hr⟩ : ∃ r, r = cN (isC of) (min X wd) := ⟨_, rfl⟩
  rw [← hr] at hb1 hb2 hi hmono ⊢
  unfold f_Spot_move
  dsimp only
  rw [fro_f hw h hX hX2 (by rw [← hr]; exact hi), ← hr, nI_and1 (by omega)]
  have e1 : nI r + 1 = nI (r + 1) := nI_1 r
  have e2 : nI (r + 1) + 1 = nI (r + 1 + 1) := nI_1 (r + 1)
  rw [e1, e2, plO_f hw h (by omega), plO_f hw h (by omega), plO_f hw h (by omega)]
  rcases Nat.mod_two_eq_zero_or_one r with hp | hp
  · rw [hp, if_neg (by decide)]
    rw [hp] at hb1 hb2
    cases bk with
    | false => rw [if_pos (by decide)]; rw [if_pos (by decide), Nat.add_zero] at hb1 hb2; rw [hb1, hb2]
    | true => rw [if_neg (by decide)]; rw [if_neg (by decide)] at hb1 hb2; rw [hb1, hb2]
  · rw [hp, if_pos (by decide)]
    rw [hp] at hb1 hb2
    cases bk with
    | false => rw [if_neg (by decide)]; rw [if_neg (by decide)] at hb1 hb2; rw [hb1, hb2]
    | true => rw [if_pos (by decide)]; rw [if_pos (by decide), Nat.add_zero] at hb1 hb2; rw [hb1, hb2]
