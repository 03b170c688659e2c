/-! the bits of a row of longs, the highest of each first -/
def gb (f : Nat → Int64) (i : Nat) : Bool := (f (i / 64)).toBitVec.getLsbD (63 - i % 64)
theorem sl_k : ∀ r, r < 64 → ((nI r).toInt64 &&& 63).toBitVec.smod 64 = BitVec.ofNat 64 r := by decide +kernel
theorem su_k : ∀ r, r < 64 → ((nI r).toInt64.toUInt64 &&& Int64.toUInt64 63).toBitVec % 64 = BitVec.ofNat 64 r := by decide +kernel
theorem bn_k {r : Nat} (h : r < 64) : (BitVec.ofNat 64 r).toNat = r := by simp; omega
theorem sl_b (x : Int64) {r : Nat} (hr : r < 64) (j : Nat) : (x <<< ((nI r).toInt64 &&& 63)).toBitVec.getLsbD j = (decide (j < 64) && decide (r ≤ j) && x.toBitVec.getLsbD (j - r)) := by
  rw [Int64.toBitVec_shiftLeft, sl_k r hr, BitVec.shiftLeft_eq', bn_k hr, BitVec.getLsbD_shiftLeft]
  have e : (!decide (j < r)) = decide (r ≤ j) := by by_cases h : r ≤ j <;> simp [h]; omega
  rw [e]
theorem su_b (x : Int64) {r : Nat} (hr : r < 64) (j : Nat) : ((x.toUInt64 >>> ((nI r).toInt64.toUInt64 &&& Int64.toUInt64 63)).toInt64).toBitVec.getLsbD j = x.toBitVec.getLsbD (r + j) := by
  rw [UInt64.toBitVec_toInt64, UInt64.toBitVec_shiftRight, su_k r hr, BitVec.ushiftRight_eq', bn_k hr, BitVec.getLsbD_ushiftRight]
  rfl
theorem or_b (x y : Int64) (j : Nat) : (x ||| y).toBitVec.getLsbD j = (x.toBitVec.getLsbD j || y.toBitVec.getLsbD j) := by rw [Int64.toBitVec_or, BitVec.getLsbD_or]
theorem and_b (x y : Int64) (j : Nat) : (x &&& y).toBitVec.getLsbD j = (x.toBitVec.getLsbD j && y.toBitVec.getLsbD j) := by rw [Int64.toBitVec_and, BitVec.getLsbD_and]
theorem xor_b (x y : Int64) (j : Nat) : (x ^^^ y).toBitVec.getLsbD j = (x.toBitVec.getLsbD j ^^ y.toBitVec.getLsbD j) := by rw [Int64.toBitVec_xor, BitVec.getLsbD_xor]
theorem m1_b (j : Nat) : ((-1 : Int64)).toBitVec.getLsbD j = decide (j < 64) := by
  have : (-1 : Int64).toBitVec = BitVec.allOnes 64 := by decide
  rw [this, BitVec.getLsbD_allOnes]
theorem z_b (j : Nat) : (0 : Int64).toBitVec.getLsbD j = false := by
  have : (0 : Int64).toBitVec = 0#64 := by decide
  rw [this, BitVec.getLsbD_zero]
theorem i64_ext {x y : Int64} (h : ∀ j, j < 64 → x.toBitVec.getLsbD j = y.toBitVec.getLsbD j) : x = y := by
  apply Int64.toBitVec_inj.mp
  apply BitVec.eq_of_getLsbD_eq
  intro j hj; exact h j hj
theorem gb_upd (f : Nat → Int64) (k : Nat) (x : Int64) (i : Nat) : gb (vp_updL f k x) i = if i / 64 = k then x.toBitVec.getLsbD (63 - i % 64) else gb f i := by
  unfold gb vp_updL
  by_cases h : i / 64 = k
  · rw [if_pos h, if_pos h]
  · rw [if_neg h, if_neg h]
theorem and63 {c : Nat} (h : c < 2 ^ 31) : nI c &&& 63 = nI (c % 64) := pk_andN (by omega) 6 (by decide)
theorem shr6 {c : Nat} (h : c < 2 ^ 31) : nI c >>> ((6 : Int32) &&& 31) = nI (c / 64) := nI_shr (k := 6) h (by decide)
theorem mask_b (v : Int64) {n : Nat} (h1 : 1 ≤ n) (h64 : n ≤ 64) (j : Nat) : (v &&& ((((-1) : Int64).toUInt64 >>> ((64 - nI n).toInt64.toUInt64 &&& Int64.toUInt64 63)).toInt64)).toBitVec.getLsbD j = (v.toBitVec.getLsbD j && decide (j < n)) := by
  have e : (64 : Int32) - nI n = nI (64 - n) := pk_sub (a := 64) h64
  rw [e, and_b, su_b _ (by omega), m1_b]
  have e2 : decide (64 - n + j < 64) = decide (j < n) := by by_cases h : j < n <;> simp [h] <;> omega
  rw [e2]
theorem addNo {f : Nat → Int64} {c n : Nat} (hc : c ≤ 524288) (h64 : n ≤ 64) (v : Int64) (h : n = 0 ∨ 524288 < c + n) : f_Bits_add (f, nI c) v (nI n) = (0, (f, nI c)) := by
  unfold f_Bits_add
  dsimp only
  by_cases h0 : n = 0
  · subst h0
    rw [if_pos (by decide)]
  · rw [if_neg (show ¬ nI n < 1 from nI_nlt (b := 1) (by omega) (by omega)), if_neg (show ¬ (64 : Int32) < nI n from nI_nlt (a := 64) (by omega) (by omega)), show (524288 : Int32) - nI c = nI (524288 - c) from pk_sub (a := 524288) hc, if_pos (nI_lt (by omega) (by omega))]
theorem addYes {f : Nat → Int64} {c n : Nat} (h1 : 1 ≤ n) (h64 : n ≤ 64) (hz : ∀ i, c ≤ i → i < 524288 → gb f i = false) (v : Int64) (hr : c + n ≤ 524288) :
    ∃ g : Nat → Int64, f_Bits_add (f, nI c) v (nI n) = (1, (g, nI (c + n))) ∧ ∀ i, i < 524288 → gb g i = if c ≤ i ∧ i < c + n then v.toBitVec.getLsbD (c + n - 1 - i) else gb f i := by
  have hm : c % 64 < 64 := Nat.mod_lt _ (by decide)
  have hd := Nat.div_add_mod c 64
  have e8 : (64 : Int32) - (nI c &&& 63) = nI (64 - c % 64) := by rw [and63 (by omega)]; exact pk_sub (a := 64) (by omega)
  unfold f_Bits_add
  dsimp only
  rw [if_neg (show ¬ nI n < 1 from nI_nlt (b := 1) (by omega) (by omega)), if_neg (show ¬ (64 : Int32) < nI n from nI_nlt (a := 64) (by omega) (by omega)), show (524288 : Int32) - nI c = nI (524288 - c) from pk_sub (a := 524288) (by omega), if_neg (nI_nlt (by omega) (by omega)),
    shr6 (by omega), if_neg (nI_pos (by omega)), if_pos (nI_lt (by omega) (by omega)), e8, nI_clamp (by omega)]
  have ec : nI c + nI n = nI (c + n) := nI_add c n
  by_cases hroom : 64 - c % 64 < n
  · rw [if_pos (nI_lt hroom (by omega)), nI_1, ec]
    have e9 : nI n - nI (64 - c % 64) = nI (n - (64 - c % 64)) := pk_sub (by omega)
    have e10 : (64 : Int32) - nI (n - (64 - c % 64)) = nI (64 - (n - (64 - c % 64))) := pk_sub (a := 64) (by omega)
    rw [e9, e10, if_neg (nI_ge (by omega) (by omega)), nI_clamp (by omega)]
    refine ⟨_, rfl, fun i hi => ?_⟩
    have hmi : i % 64 < 64 := Nat.mod_lt _ (by decide)
    have hdi := Nat.div_add_mod i 64
    rw [gb_upd]
    by_cases hk1 : i / 64 = c / 64 + 1
    · rw [if_pos hk1, or_b, sl_b _ (by omega), mask_b _ h1 h64, pk_uLn (by omega)]
      have hf : gb f i = false := hz i (by omega) hi
      have hf' : (f (c / 64 + 1)).toBitVec.getLsbD (63 - i % 64) = false := by rw [← hk1]; exact hf
      rw [hf']
      by_cases hin : c ≤ i ∧ i < c + n
      · rw [if_pos hin, decide_eq_true (show 63 - i % 64 < 64 by omega), decide_eq_true (show 64 - (n - (64 - c % 64)) ≤ 63 - i % 64 by omega), decide_eq_true (show 63 - i % 64 - (64 - (n - (64 - c % 64))) < n by omega), show 63 - i % 64 - (64 - (n - (64 - c % 64))) = c + n - 1 - i by omega]
        simp
      · rw [if_neg hin, decide_eq_false (show ¬ 64 - (n - (64 - c % 64)) ≤ 63 - i % 64 by omega), hf]
        simp
    · rw [if_neg hk1, gb_upd]
      by_cases hk : i / 64 = c / 64
      · rw [if_pos hk, or_b, su_b _ (by omega), mask_b _ h1 h64]
        have hf' : (f (c / 64)).toBitVec.getLsbD (63 - i % 64) = gb f i := by rw [← hk]; rfl
        rw [hf']
        by_cases hin : c ≤ i ∧ i < c + n
        · rw [if_pos hin, hz i hin.1 hi, decide_eq_true (show n - (64 - c % 64) + (63 - i % 64) < n by omega), show n - (64 - c % 64) + (63 - i % 64) = c + n - 1 - i by omega]
          simp
        · rw [if_neg hin, decide_eq_false (show ¬ n - (64 - c % 64) + (63 - i % 64) < n by omega)]
          simp
      · rw [if_neg hk, if_neg (by omega)]
  · rw [if_neg (nI_nlt (by omega) (by omega)), ec]
    have e9 : nI (64 - c % 64) - nI n = nI (64 - c % 64 - n) := pk_sub (by omega)
    rw [e9]
    refine ⟨_, rfl, fun i hi => ?_⟩
    have hmi : i % 64 < 64 := Nat.mod_lt _ (by decide)
    have hdi := Nat.div_add_mod i 64
    rw [gb_upd]
    by_cases hk : i / 64 = c / 64
    · rw [if_pos hk, or_b, sl_b _ (by omega), mask_b _ h1 h64]
      have hf' : (f (c / 64)).toBitVec.getLsbD (63 - i % 64) = gb f i := by rw [← hk]; rfl
      rw [hf']
      by_cases hin : c ≤ i ∧ i < c + n
      · rw [if_pos hin, hz i hin.1 hi, decide_eq_true (show 63 - i % 64 < 64 by omega), decide_eq_true (show 64 - c % 64 - n ≤ 63 - i % 64 by omega), decide_eq_true (show 63 - i % 64 - (64 - c % 64 - n) < n by omega), show 63 - i % 64 - (64 - c % 64 - n) = c + n - 1 - i by omega]
        simp
      · rw [if_neg hin]
        by_cases hlo : 64 - c % 64 - n ≤ 63 - i % 64
        · rw [decide_eq_false (show ¬ 63 - i % 64 - (64 - c % 64 - n) < n by omega)]; simp
        · rw [decide_eq_false hlo]; simp
    · rw [if_neg hk, if_neg (by omega)]
theorem cutNo {f : Nat → Int64} {c t : Nat} (hc : c ≤ 524288) (h : c ≤ t) (ht : t ≤ 524288) : f_Bits_cut (f, nI c) (nI t) = (f, nI c) := by
  unfold f_Bits_cut
  rw [if_neg (nI_pos (by omega)), if_neg (nI_nlt h (by omega))]
theorem cut_20 {f : Nat → Int64} {c t : Nat} (hc : c ≤ 524288) (ht : t < c) : ∀ (m fuel k : Nat) (g : Nat → Int64), m = (c - 1) / 64 + 1 - k → m < fuel → t / 64 ≤ k → k ≤ (c - 1) / 64 + 1 →
    ∃ g' : Nat → Int64, l_Bits_cut_20 (f, nI c) (nI t) fuel g (nI k) (nI (t / 64)) = (g', nI t) ∧ ∀ i, gb g' i = if k ≤ i / 64 ∧ i / 64 ≤ (c - 1) / 64 then (gb g i && decide (i < t)) else gb g i := by
  intro m
  have ec : nI c - 1 = nI (c - 1) := by
    have := nI_pred (c - 1)
    rwa [show c - 1 + 1 = c by omega] at this
  have eb : (nI c - 1) >>> ((6 : Int32) &&& 31) = nI ((c - 1) / 64) := by rw [ec]; exact shr6 (by omega)
  induction m with
  | zero =>
    intro fuel k g hm hf h1 h2
    obtain ⟨n, rfl⟩ : ∃ n, fuel = n + 1 := ⟨fuel - 1, by omega⟩
    simp only [l_Bits_cut_20]
    rw [eb]
    refine ⟨g, ?_, fun i => ?_⟩
    · by_cases h : 8192 ≤ k
      · rw [if_pos (nI_le h (by omega))]
      · rw [if_neg (nI_ge (by omega) (by omega)), if_pos (nI_lt (by omega) (by omega))]
    · rw [if_neg (by omega)]
  | succ m ih =>
    intro fuel k g hm hf h1 h2
    obtain ⟨n, rfl⟩ : ∃ n, fuel = n + 1 := ⟨fuel - 1, by omega⟩
    simp only [l_Bits_cut_20]
    rw [eb, if_neg (nI_ge (by omega) (by omega)), if_neg (nI_nlt (by omega) (by omega)), nI_clamp (by omega), nI_1, and63 (by omega)]
    by_cases hk : k = t / 64
    · rw [if_pos (by rw [hk])]
      obtain ⟨g', e, hg⟩ := ih n (k + 1) _ (by omega) (by omega) (by omega) (by omega)
      refine ⟨g', e, fun i => ?_⟩
      rw [hg i, gb_upd, and_b, xor_b, su_b _ (by omega), m1_b, m1_b]
      have hi := Nat.div_add_mod i 64
      have hi2 : i % 64 < 64 := Nat.mod_lt _ (by decide)
      have htd := Nat.div_add_mod t 64
      have ht2 : t % 64 < 64 := Nat.mod_lt _ (by decide)
      by_cases hik : i / 64 = k
      · rw [if_neg (by omega), if_pos hik, if_pos (by omega), decide_eq_true (show 63 - i % 64 < 64 by omega)]
        have e1 : (g k).toBitVec.getLsbD (63 - i % 64) = gb g i := by rw [← hik]; rfl
        rw [e1]
        by_cases hlt : i < t
        · rw [decide_eq_false (show ¬ t % 64 + (63 - i % 64) < 64 by omega), decide_eq_true hlt]; simp
        · rw [decide_eq_true (show t % 64 + (63 - i % 64) < 64 by omega), decide_eq_false hlt]; simp
      · rw [if_neg hik]
        by_cases h9 : k + 1 ≤ i / 64 ∧ i / 64 ≤ (c - 1) / 64
        · rw [if_pos h9, if_pos (by omega)]
        · rw [if_neg h9, if_neg (by omega)]
    · rw [if_neg (fun e => hk ((nI_eq (by omega) (by omega)).mp e))]
      obtain ⟨g', e, hg⟩ := ih n (k + 1) _ (by omega) (by omega) (by omega) (by omega)
      refine ⟨g', e, fun i => ?_⟩
      rw [hg i, gb_upd, and_b, z_b]
      have hi := Nat.div_add_mod i 64
      have hi2 : i % 64 < 64 := Nat.mod_lt _ (by decide)
      have htd := Nat.div_add_mod t 64
      have ht2 : t % 64 < 64 := Nat.mod_lt _ (by decide)
      by_cases hik : i / 64 = k
      · rw [if_neg (by omega), if_pos hik, if_pos (by omega), decide_eq_false (show ¬ i < t by omega)]; simp
      · rw [if_neg hik]
        by_cases h9 : k + 1 ≤ i / 64 ∧ i / 64 ≤ (c - 1) / 64
        · rw [if_pos h9, if_pos (by omega)]
        · rw [if_neg h9, if_neg (by omega)]
theorem cutYes {f : Nat → Int64} {c t : Nat} (hc : c ≤ 524288) (ht : t < c) (hz : ∀ i, c ≤ i → i < 524288 → gb f i = false) : ∃ g' : Nat → Int64, f_Bits_cut (f, nI c) (nI t) = (g', nI t) ∧ ∀ i, i < 524288 → gb g' i = (gb f i && decide (i < t)) := by
  unfold f_Bits_cut
  rw [if_neg (nI_pos (by omega)), if_pos (nI_lt ht (by omega))]
  dsimp only
  rw [shr6 (by omega), nI_toInt (by omega), nI_toInt (by omega)]
  obtain ⟨g', e, hg⟩ := cut_20 (f := f) hc ht _ _ (t / 64) f rfl (show _ < (((8192 : Nat) : Int) - ((t / 64 : Nat) : Int)).toNat + 1 by omega) (Nat.le_refl _) (by omega)
  refine ⟨g', e, fun i hi => ?_⟩
  rw [hg i]
  by_cases h9 : t / 64 ≤ i / 64 ∧ i / 64 ≤ (c - 1) / 64
  · rw [if_pos h9]
  · rw [if_neg h9]
    by_cases hlt : i < t
    · rw [decide_eq_true hlt]; simp
    · rw [hz i (by omega) hi]; simp
/-- a clean row cut to t bits -/
theorem cut_f {f : Nat → Int64} {c t : Nat} (hc : c ≤ 524288) (ht : t ≤ c) (hz : ∀ i, c ≤ i → i < 524288 → gb f i = false) : ∃ g' : Nat → Int64, f_Bits_cut (f, nI c) (nI t) = (g', nI t) ∧ ∀ i, i < 524288 → gb g' i = (gb f i && decide (i < t)) := by
  rcases Nat.eq_or_lt_of_le ht with h | h
  · subst h
    refine ⟨f, cutNo hc (Nat.le_refl _) hc, fun i hi => ?_⟩
    by_cases hlt : i < t
    · rw [decide_eq_true hlt]; simp
    · rw [hz i (by omega) hi]; simp
  · exact cutYes hc h hz
theorem fillA_6 (pn : Nat) (hp : pn < 2 ^ 31) (f : Nat → Int64) (x : Int64) : ∀ (m fuel k : Nat) (g : Nat → Int64), m = pn - k → m < fuel → k ≤ pn → l_Arrays_fill_6 pn f x fuel g (nI k) = fun j => if k ≤ j ∧ j < pn then x else g j := by
  intro m
  induction m with
  | zero =>
    intro fuel k g hm hf hk
    obtain ⟨n, rfl⟩ : ∃ n, fuel = n + 1 := ⟨fuel - 1, by omega⟩
    simp only [l_Arrays_fill_6]
    rw [if_pos (nI_le (by omega) (by omega))]
    funext j
    rw [if_neg (by omega)]
  | succ m ih =>
    intro fuel k g hm hf hk
    obtain ⟨n, rfl⟩ : ∃ n, fuel = n + 1 := ⟨fuel - 1, by omega⟩
    simp only [l_Arrays_fill_6]
    rw [if_neg (nI_ge (by omega) (by omega)), nI_clamp (by omega), nI_1, ih n (k + 1) _ (by omega) (by omega) (by omega)]
    funext j
    unfold vp_updL
    by_cases h : j = k
    · rw [if_neg (by omega), if_pos h, if_pos (by omega)]
    · rw [if_neg h]
      by_cases h2 : k ≤ j ∧ j < pn
      · rw [if_pos (by omega), if_pos h2]
      · rw [if_neg (by omega), if_neg h2]
theorem fillA_f {pn : Nat} (hp : pn < 2 ^ 31) (f : Nat → Int64) (x : Int64) : f_Arrays_fill pn f x = fun j => if j < pn then x else f j := by
  unfold f_Arrays_fill
  rw [nI_toInt hp, ti_0]
  have h := fillA_6 pn hp f x pn (((pn : Int) - 0).toNat + 1) 0 f (by omega) (by omega) (by omega)
  have e : nI 0 = 0 := nI_0
  rw [e] at h
  rw [h]
  funext j
  simp
/-- a white line -/
theorem whiten_f {wd : Nat} (hw : wd ≤ 10000) (pf : Nat → Int64) (ch : (Nat → Int32) × Int32) : (f_Line_whiten wd pf ch).2 = (ch.1, 0) ∧ ∀ i, i < 64 * ((wd + 63) / 64) → gb (f_Line_whiten wd pf ch).1 i = false := by
  unfold f_Line_whiten
  dsimp only
  rw [fillA_f (by omega)]
  refine ⟨rfl, fun i hi => ?_⟩
  show (if i / 64 < (wd + 63) / 64 then (0 : Int64) else pf (i / 64)).toBitVec.getLsbD (63 - i % 64) = false
  rw [if_pos (by omega), z_b]
theorem mx0 {a b : Nat} (ha : a < 2 ^ 30) (hb : b < 2 ^ 30) : (if nI a - nI b < 0 then (0 : Int32) else nI a - nI b) = nI (a - b) := by
  by_cases h : a < b
  · rw [if_pos (pk_sneg hb h), show a - b = 0 by omega]; rfl
  · rw [pk_sub (by omega), if_neg (nI_pos (by omega))]
theorem mn63 {a : Nat} (ha : a < 2 ^ 30) : (if (63 : Int32) < nI a then (63 : Int32) else nI a) = nI (min 63 a) := by
  by_cases h : 63 < a
  · rw [if_pos (show (63 : Int32) < nI a from nI_lt (a := 63) h (by omega)), Nat.min_eq_left (by omega)]; rfl
  · rw [if_neg (show ¬ (63 : Int32) < nI a from nI_nlt (a := 63) (by omega) (by omega)), Nat.min_eq_right (by omega)]
theorem fill_24 {wd fr to : Nat} (hw : wd ≤ 10000) (pf : Nat → Int64) (bk : Bool) (h1 : fr < to) (h2 : to ≤ wd) : ∀ (m fuel k : Nat) (g : Nat → Int64), m = (to - 1) / 64 + 1 - k → m < fuel → fr / 64 ≤ k → k ≤ (to - 1) / 64 + 1 →
    ∀ i, gb (l_Line_fill_24 wd pf (nI fr) (nI to) bk fuel g (nI k)) i = if 64 * k ≤ i ∧ fr ≤ i ∧ i < to then bk else gb g i := by
  have ec : nI to - 1 = nI (to - 1) := by
    have := nI_pred (to - 1)
    rwa [show to - 1 + 1 = to by omega] at this
  have eb : (nI to - 1) >>> ((6 : Int32) &&& 31) = nI ((to - 1) / 64) := by rw [ec]; exact shr6 (by omega)
  intro m
  induction m with
  | zero =>
    intro fuel k g hm hf h3 h4 i
    obtain ⟨n, rfl⟩ : ∃ n, fuel = n + 1 := ⟨fuel - 1, by omega⟩
    simp only [l_Line_fill_24]
    rw [eb]
    have : (if nI ((wd + 63) / 64) ≤ nI k then g else g) = g := by split <;> rfl
    rw [if_pos (nI_lt (a := (to - 1) / 64) (b := k) (by omega) (by omega)), this, if_neg (by omega)]
  | succ m ih =>
    intro fuel k g hm hf h3 h4 i
    obtain ⟨n, rfl⟩ : ∃ n, fuel = n + 1 := ⟨fuel - 1, by omega⟩
    simp only [l_Line_fill_24]
    have e64 : (64 : Int32) * nI k = nI (64 * k) := pk_mul 64 k
    have e7 : nI (to - 1) - nI (64 * k) = nI (to - 1 - 64 * k) := pk_sub (by omega)
    have e8 : (63 : Int32) - nI (min 63 (to - 1 - 64 * k)) = nI (63 - min 63 (to - 1 - 64 * k)) := pk_sub (a := 63) (by omega)
    rw [eb, if_neg (nI_ge (by omega) (by omega)), if_neg (nI_nlt (by omega) (by omega)), nI_clamp (by omega), nI_1, e64, mx0 (by omega) (by omega), ec, e7, mn63 (by omega), e8]
    have hi := Nat.div_add_mod i 64
    have hi2 : i % 64 < 64 := Nat.mod_lt _ (by decide)
    have hl : fr - 64 * k < 64 := by omega
    have hm63 : min 63 (to - 1 - 64 * k) ≤ 63 := Nat.min_le_left _ _
    have hmin : min 63 (to - 1 - 64 * k) = if 63 ≤ to - 1 - 64 * k then 63 else to - 1 - 64 * k := by rw [Nat.min_def]
    cases bk with
    | false =>
      rw [if_pos (by decide), ih n (k + 1) _ (by omega) (by omega) (by omega) (by omega), gb_upd]
      by_cases hik : i / 64 = k
      · rw [if_neg (by omega), if_pos hik, and_b, xor_b, and_b, su_b _ hl, sl_b _ (by omega), m1_b, m1_b, m1_b]
        have e1 : (g k).toBitVec.getLsbD (63 - i % 64) = gb g i := by rw [← hik]; rfl
        rw [e1, decide_eq_true (show 63 - i % 64 < 64 by omega)]
        by_cases hin : 64 * k ≤ i ∧ fr ≤ i ∧ i < to
        · rw [if_pos hin, decide_eq_true (show fr - 64 * k + (63 - i % 64) < 64 by omega), decide_eq_true (show 63 - min 63 (to - 1 - 64 * k) ≤ 63 - i % 64 by rw [hmin]; split <;> omega), decide_eq_true (show 63 - i % 64 - (63 - min 63 (to - 1 - 64 * k)) < 64 by omega)]
          simp
        · rw [if_neg hin]
          by_cases h5 : fr ≤ i
          · rw [decide_eq_false (show ¬ 63 - min 63 (to - 1 - 64 * k) ≤ 63 - i % 64 by rw [hmin]; split <;> omega)]; simp
          · rw [decide_eq_false (show ¬ fr - 64 * k + (63 - i % 64) < 64 by omega)]; simp
      · rw [if_neg hik]
        by_cases h9 : 64 * k ≤ i ∧ fr ≤ i ∧ i < to
        · rw [if_pos (by omega), if_pos h9]
        · rw [if_neg (by omega), if_neg h9]
    | true =>
      rw [if_neg (by decide), ih n (k + 1) _ (by omega) (by omega) (by omega) (by omega), gb_upd]
      by_cases hik : i / 64 = k
      · rw [if_neg (by omega), if_pos hik, or_b, and_b, su_b _ hl, sl_b _ (by omega), m1_b, m1_b]
        have e1 : (g k).toBitVec.getLsbD (63 - i % 64) = gb g i := by rw [← hik]; rfl
        rw [e1, decide_eq_true (show 63 - i % 64 < 64 by omega)]
        by_cases hin : 64 * k ≤ i ∧ fr ≤ i ∧ i < to
        · rw [if_pos hin, decide_eq_true (show fr - 64 * k + (63 - i % 64) < 64 by omega), decide_eq_true (show 63 - min 63 (to - 1 - 64 * k) ≤ 63 - i % 64 by rw [hmin]; split <;> omega), decide_eq_true (show 63 - i % 64 - (63 - min 63 (to - 1 - 64 * k)) < 64 by omega)]
          simp
        · rw [if_neg hin]
          by_cases h5 : fr ≤ i
          · rw [decide_eq_false (show ¬ 63 - min 63 (to - 1 - 64 * k) ≤ 63 - i % 64 by rw [hmin]; split <;> omega)]; simp
          · rw [decide_eq_false (show ¬ fr - 64 * k + (63 - i % 64) < 64 by omega)]; simp
      · rw [if_neg hik]
        by_cases h9 : 64 * k ≤ i ∧ fr ≤ i ∧ i < to
        · rw [if_pos (by omega), if_pos h9]
        · rw [if_neg (by omega), if_neg h9]
/-- a stretch of a line painted -/
theorem fill_f {wd fr to : Nat} (hw : wd ≤ 10000) (hfr : fr < 2 ^ 31) (pf : Nat → Int64) (bk : Bool) (h2 : to ≤ wd) (i : Nat) : gb (f_Line_fill wd pf (nI fr) (nI to) bk) i = if fr ≤ i ∧ i < to then bk else gb pf i := by
  unfold f_Line_fill
  rw [if_neg (nI_pos hfr)]
  by_cases h1 : to ≤ fr
  · rw [if_pos (nI_le h1 hfr), if_neg (by omega)]
  · rw [if_neg (nI_ge (by omega) (by omega)), if_pos (nI_le h2 (by omega))]
    dsimp only
    rw [shr6 hfr, nI_toInt (by omega), nI_toInt (by omega), fill_24 hw pf bk (by omega) h2 ((to - 1) / 64 + 1 - fr / 64) _ (fr / 64) pf rfl (by omega) (Nat.le_refl _) (by omega)]
    by_cases h9 : fr ≤ i ∧ i < to
    · rw [if_pos (by omega), if_pos h9]
    · rw [if_neg (by omega), if_neg h9]
theorem part_b {f : Nat → Int64} {c k i : Nat} (hk : k < 8192) (hi : i / 64 = k) : (f_Bits_part (f, nI c) (nI k)).toBitVec.getLsbD (63 - i % 64) = gb f i := by
  unfold f_Bits_part
  rw [if_neg (nI_pos (by omega)), if_pos (nI_lt hk (by omega))]
  dsimp only
  rw [nI_clamp (by omega), ← hi]
  rfl
theorem bytes_f (f : Nat → Int64) {c : Nat} (hc : c ≤ 524288) : f_Bits_bytes (f, nI c) = nI ((c + 7) / 8) := by
  unfold f_Bits_bytes
  have e : nI c + 7 = nI (c + 7) := nI_add c 7
  rw [e]
  exact pk_div (d := 8) (by omega) (by decide) (by decide)
theorem become_46 {f2 : Nat → Int64} {c2 w S : Nat} (b : (Nat → Int64) × Int32) (hS : S = 8 * ((c2 + 7) / 8 - w)) (hc2 : c2 ≤ 524288) (hw : w ≤ (c2 + 7) / 8) :
    ∀ (m fuel k cnt : Nat) (g : Nat → Int64), m = 8192 - k → m < fuel → k ≤ 8192 → w / 8 < k → cnt + 8 * w = 64 * k → (∀ i, i < 524288 → gb g i = (decide (i < cnt) && gb f2 (8 * w + i))) → ∀ y3 : Int32,
    ∃ g' : Nat → Int64, l_Bits_become_46 (f2, nI c2) b (nI w) fuel g (nI cnt) (nI k) (nI S) y3 = (g', nI S) ∧ ∀ i, i < 524288 → gb g' i = (decide (i < S) && gb f2 (8 * w + i)) := by
  intro m
  have hend : ∀ (g : Nat → Int64) (cnt : Nat), cnt ≤ 524288 → S ≤ cnt → (∀ i, i < 524288 → gb g i = (decide (i < cnt) && gb f2 (8 * w + i))) → ∃ g' : Nat → Int64, f_Bits_cut (g, nI cnt) (nI S) = (g', nI S) ∧ ∀ i, i < 524288 → gb g' i = (decide (i < S) && gb f2 (8 * w + i)) := by
    intro g cnt h1 h2 hg
    obtain ⟨g', e, h⟩ := cut_f (f := g) h1 h2 (fun i a b => by rw [hg i b, decide_eq_false (by omega)]; rfl)
    refine ⟨g', e, fun i hi => ?_⟩
    rw [h i hi, hg i hi]
    by_cases hlt : i < S
    · rw [decide_eq_true hlt, decide_eq_true (show i < cnt by omega)]; simp
    · rw [decide_eq_false hlt]; simp
  induction m with
  | zero =>
    intro fuel k cnt g hm hf hk hwk hcnt hg y3
    obtain ⟨n, rfl⟩ : ∃ n, fuel = n + 1 := ⟨fuel - 1, by omega⟩
    simp only [l_Bits_become_46]
    rw [if_pos (nI_le (by omega) (by omega))]
    exact hend g cnt (by omega) (by omega) hg
  | succ m ih =>
    intro fuel k cnt g hm hf hk hwk hcnt hg y3
    obtain ⟨n, rfl⟩ : ∃ n, fuel = n + 1 := ⟨fuel - 1, by omega⟩
    simp only [l_Bits_become_46]
    rw [if_neg (nI_ge (by omega) (by omega))]
    by_cases hs : S ≤ cnt
    · rw [if_pos (nI_le hs (by omega))]
      exact hend g cnt (by omega) hs hg
    · rw [if_neg (nI_ge (by omega) (by omega))]
      obtain ⟨g1, e, h⟩ := addYes (f := g) (c := cnt) (n := 64) (by decide) (by decide) (fun i a b => by rw [hg i b, decide_eq_false (by omega)]; rfl) (f_Bits_part (f2, nI c2) (nI k)) (by omega)
      have e' : f_Bits_add (g, nI cnt) (f_Bits_part (f2, nI c2) (nI k)) 64 = (1, (g1, nI (cnt + 64))) := e
      rw [e', nI_1]
      refine ih n (k + 1) (cnt + 64) g1 (by omega) (by omega) (by omega) (by omega) (by omega) (fun i hi => ?_) y3
      rw [h i hi]
      by_cases hin : cnt ≤ i ∧ i < cnt + 64
      · rw [if_pos hin, decide_eq_true hin.2]
        have e2 : cnt + 64 - 1 - i = 63 - (8 * w + i) % 64 := by omega
        rw [e2, part_b (by omega) (by omega)]
        simp
      · rw [if_neg hin, hg i hi]
        by_cases h5 : i < cnt
        · rw [decide_eq_true h5, decide_eq_true (show i < cnt + 64 by omega)]
        · rw [decide_eq_false h5, decide_eq_false (show ¬ i < cnt + 64 by omega)]
/-- another row's bytes, without the first ones -/
theorem become_f {f f2 : Nat → Int64} {c c2 w : Nat} (hc : c ≤ 524288) (hz : ∀ i, c ≤ i → i < 524288 → gb f i = false) (hc2 : c2 ≤ 524288) (hw : w ≤ (c2 + 7) / 8) :
    ∃ g' : Nat → Int64, f_Bits_become (f2, nI c2) (f, nI c) (nI w) = (g', nI (8 * ((c2 + 7) / 8 - w))) ∧ ∀ i, i < 524288 → gb g' i = (decide (i < 8 * ((c2 + 7) / 8 - w)) && gb f2 (8 * w + i)) := by
  obtain ⟨g0, e0, h0⟩ := cut_f (f := f) (t := 0) hc (by omega) hz
  have e0' : f_Bits_cut (f, nI c) 0 = (g0, nI 0) := e0
  have e2 : nI w / 8 = nI (w / 8) := pk_div (d := 8) (by omega) (by decide) (by decide)
  have er : nI w - nI w / 8 * 8 = nI (w % 8) := pk_rem (d := 8) (by omega) (by decide) (by decide)
  have e4 : (8 : Int32) * (nI ((c2 + 7) / 8) - nI w) = nI (8 * ((c2 + 7) / 8 - w)) := by rw [pk_sub hw]; exact pk_mul 8 _
  have e5 : (64 : Int32) - 8 * (nI w - nI w / 8 * 8) = nI (64 - 8 * (w % 8)) := by
    rw [er, show (8 : Int32) * nI (w % 8) = nI (8 * (w % 8)) from pk_mul 8 _]
    exact pk_sub (a := 64) (by omega)
  unfold f_Bits_become
  dsimp only
  rw [e0', bytes_f f2 hc2, e5, e4, e2, nI_1]
  by_cases hlast : w / 8 < 8192
  · obtain ⟨g1, e, h⟩ := addYes (f := g0) (c := 0) (n := 64 - 8 * (w % 8)) (by omega) (by omega) (fun i a b => by rw [h0 i b, decide_eq_false (by omega)]; simp) (f_Bits_part (f2, nI c2) (nI (w / 8))) (by omega)
    rw [e, nI_toInt (by omega), nI_toInt (by omega)]
    refine become_46 (f, nI c) rfl hc2 hw _ _ (w / 8 + 1) (0 + (64 - 8 * (w % 8))) g1 rfl (by omega) (by omega) (by omega) (by omega) (fun i hi => ?_) _
    rw [h i hi]
    by_cases hin : 0 ≤ i ∧ i < 0 + (64 - 8 * (w % 8))
    · rw [if_pos hin, decide_eq_true hin.2]
      have e9 : 0 + (64 - 8 * (w % 8)) - 1 - i = 63 - (8 * w + i) % 64 := by omega
      rw [e9, part_b (by omega) (by omega)]
      simp
    · rw [if_neg hin, h0 i hi, decide_eq_false (show ¬ i < 0 by omega), decide_eq_false (show ¬ i < 0 + (64 - 8 * (w % 8)) by omega)]
      simp
  · have hw2 : w = 65536 := by omega
    subst hw2
    have hp : f_Bits_part (f2, nI c2) (nI (65536 / 8)) = 0 := by
      unfold f_Bits_part
      rw [if_neg (nI_pos (by omega)), if_neg (by decide)]
    obtain ⟨g1, e, h⟩ := addYes (f := g0) (c := 0) (n := 64 - 8 * (65536 % 8)) (by omega) (by omega) (fun i a b => by rw [h0 i b, decide_eq_false (by omega)]; simp) 0 (by omega)
    rw [hp, e, nI_toInt (by omega), nI_toInt (by omega)]
    have ef : (((8192 : Nat) : Int) - ((65536 / 8 + 1 : Nat) : Int)).toNat + 1 = 1 := by decide
    rw [ef]
    simp only [l_Bits_become_46]
    rw [if_pos (by decide)]
    have hS : 8 * ((c2 + 7) / 8 - 65536) = 0 := by omega
    rw [hS]
    obtain ⟨g', e', h'⟩ := cut_f (f := g1) (c := 0 + (64 - 8 * (65536 % 8))) (t := 0) (by omega) (by omega) (fun i a b => by rw [h i b, if_neg (by omega), h0 i b, decide_eq_false (by omega)]; simp)
    refine ⟨g', e', fun i hi => ?_⟩
    rw [h' i hi, decide_eq_false (show ¬ i < 0 by omega)]
    simp
/-! the reference's loops over its rows of booleans -/
def stR (g : Nat → Bool) (a b : Nat) (v : Bool) : Nat → Bool := fun j => if a ≤ j ∧ j < b then v else g j
theorem stR_0 (g : Nat → Bool) {a b : Nat} (v : Bool) (h : b ≤ a) : stR g a b v = g := by funext j; unfold stR; rw [if_neg (by omega)]
theorem stR_s (g : Nat → Bool) {a b : Nat} (v : Bool) (h : a < b) : stR (uB g a v) (a + 1) b v = stR g a b v := by
  funext j
  unfold stR uB
  by_cases h1 : j = a
  · rw [if_neg (by omega), if_pos h1, if_pos (by omega)]
  · rw [if_neg h1]
    by_cases h2 : a ≤ j ∧ j < b
    · rw [if_pos (by omega), if_pos h2]
    · rw [if_neg (by omega), if_neg h2]
theorem mp_37 {wd : Nat} {th x n : Int32} {lin : Nat → Bool} {bk : Bool} {z : Int32} {b : Nat} (hxn : x + n = nI b) (hb : b ≤ 10000) : ∀ (m fuel k : Nat) (g : Nat → Bool), m = b - k → m < fuel → k ≤ b → l_Model_paint_37 wd th lin x n bk fuel g (nI k) z = (1, (z, stR g k b bk)) := by
  intro m
  induction m with
  | zero =>
    intro fuel k g hm hf hk
    obtain ⟨f, rfl⟩ : ∃ f, fuel = f + 1 := ⟨fuel - 1, by omega⟩
    simp only [l_Model_paint_37]
    rw [hxn, if_pos (nI_le (by omega) (by omega)), stR_0 _ _ (by omega)]
  | succ m ih =>
    intro fuel k g hm hf hk
    obtain ⟨f, rfl⟩ : ∃ f, fuel = f + 1 := ⟨fuel - 1, by omega⟩
    simp only [l_Model_paint_37]
    rw [hxn, if_neg (nI_ge (by omega) (by omega)), nI_clamp (by omega), nI_1, ih f (k + 1) _ (by omega) (by omega) (by omega), stR_s _ _ (by omega)]
theorem mb_17 {wd : Nat} (hw : wd ≤ 10000) {lns ps st : Int32} {rab : Nat → Bool} : ∀ (m fuel k : Nat) (g : Nat → Bool), m = wd - k → m < fuel → k ≤ wd → l_Model_begin_17 wd lns ps st rab fuel g (nI k) = (0, 0, 1, stR g k wd false) := by
  intro m
  induction m with
  | zero =>
    intro fuel k g hm hf hk
    obtain ⟨f, rfl⟩ : ∃ f, fuel = f + 1 := ⟨fuel - 1, by omega⟩
    simp only [l_Model_begin_17]
    rw [if_pos (nI_le (by omega) (by omega)), stR_0 _ _ (by omega)]
  | succ m ih =>
    intro fuel k g hm hf hk
    obtain ⟨f, rfl⟩ : ∃ f, fuel = f + 1 := ⟨fuel - 1, by omega⟩
    simp only [l_Model_begin_17]
    rw [if_neg (nI_ge (by omega) (by omega)), nI_clamp (by omega), nI_1, ih f (k + 1) _ (by omega) (by omega) (by omega), stR_s _ _ (by omega)]
theorem mb_f {wd : Nat} (hw : wd ≤ 10000) (lns ps st : Int32) (rab : Nat → Bool) : f_Model_begin wd lns ps st rab = (0, 0, 1, stR rab 0 wd false) := by
  unfold f_Model_begin
  rw [nI_toInt (by omega), ti_0]
  exact mb_17 hw wd _ 0 rab rfl (by omega) (by omega)
theorem mcl_37 {wd : Nat} (hw : wd ≤ 10000) {th bt cd : Int32} {cl : Bool} {c3 : Int32 × Int32 × Int32} {lin abo : Nat → Bool} : ∀ (m fuel k : Nat) (g0 g1 : Nat → Bool), m = wd - k → m < fuel → k ≤ wd → l_Model_clear_37 wd th bt cl cd c3 lin abo fuel g0 g1 (nI k) = (0, 0, false, 0, (0, 0, 0), stR g0 k wd false, stR g1 k wd false) := by
  intro m
  induction m with
  | zero =>
    intro fuel k g0 g1 hm hf hk
    obtain ⟨f, rfl⟩ : ∃ f, fuel = f + 1 := ⟨fuel - 1, by omega⟩
    simp only [l_Model_clear_37]
    rw [if_pos (nI_le (by omega) (by omega)), stR_0 _ _ (by omega), stR_0 _ _ (by omega)]
  | succ m ih =>
    intro fuel k g0 g1 hm hf hk
    obtain ⟨f, rfl⟩ : ∃ f, fuel = f + 1 := ⟨fuel - 1, by omega⟩
    simp only [l_Model_clear_37]
    rw [if_neg (nI_ge (by omega) (by omega)), nI_clamp (by omega), nI_1, ih f (k + 1) _ _ (by omega) (by omega) (by omega), stR_s _ _ (by omega), stR_s _ _ (by omega)]
theorem mcl_f {wd : Nat} (hw : wd ≤ 10000) (th bt cd : Int32) (cl : Bool) (c3 : Int32 × Int32 × Int32) (lin abo : Nat → Bool) : f_Model_clear wd th bt cl cd c3 lin abo = (0, 0, false, 0, (0, 0, 0), stR lin 0 wd false, stR abo 0 wd false) := by
  unfold f_Model_clear
  rw [nI_toInt (by omega), ti_0]
  exact mcl_37 hw wd _ 0 lin abo rfl (by omega) (by omega)
theorem mf_11 {wd : Nat} {rln : Nat → Bool} {x : Int32} {b : Nat} (hb : b ≤ 10000) {bk : Bool} : ∀ (m fuel k : Nat) (g : Nat → Bool), m = b - k → m < fuel → k ≤ 10000 → l_Model_fill_11 wd rln x (nI b) bk fuel g (nI k) = stR g k b bk := by
  intro m
  induction m with
  | zero =>
    intro fuel k g hm hf hk
    obtain ⟨f, rfl⟩ : ∃ f, fuel = f + 1 := ⟨fuel - 1, by omega⟩
    simp only [l_Model_fill_11]
    rw [if_pos (nI_le (by omega) (by omega)), stR_0 _ _ (by omega)]
  | succ m ih =>
    intro fuel k g hm hf hk
    obtain ⟨f, rfl⟩ : ∃ f, fuel = f + 1 := ⟨fuel - 1, by omega⟩
    simp only [l_Model_fill_11]
    rw [if_neg (nI_ge (by omega) (by omega)), nI_clamp (by omega), nI_1, ih f (k + 1) _ (by omega) (by omega) (by omega), stR_s _ _ (by omega)]
/-- the reference paints from a (or 0, where a is -1) on up to b -/
theorem mf_f {wd a b : Nat} (rln : Nat → Bool) (ha : a ≤ 10000) (hb : b ≤ 10000) (bk : Bool) {x : Int32} (hx : x = nI a ∨ (x = -1 ∧ a = 0)) : f_Model_fill wd rln x (nI b) bk = stR rln a b bk := by
  unfold f_Model_fill
  rcases hx with rfl | ⟨rfl, rfl⟩
  · rw [if_pos (nI_pos' (by omega)), nI_toInt (by omega), nI_toInt (by omega)]
    exact mf_11 hb (b - a) _ a rln rfl (by omega) ha
  · rw [if_neg (by decide), nI_toInt (by omega), ti_0]
    exact mf_11 hb b _ 0 rln rfl (by omega) (by omega)
theorem mt_2 {nx bt : Nat} {nex out : Nat → Bool} (hn : nx ≤ 200000) (hb : bt ≤ 524288) : ∀ (m fuel k : Nat) (g : Nat → Bool), m = nx - k → m < fuel → k ≤ nx → l_Model_take_2 (nI nx) nex (nI bt) out fuel g (nI k) = (nI (bt + nx), fun j => if bt + k ≤ j ∧ j < bt + nx then nex (j - bt) else g j) := by
  intro m
  induction m with
  | zero =>
    intro fuel k g hm hf hk
    obtain ⟨f, rfl⟩ : ∃ f, fuel = f + 1 := ⟨fuel - 1, by omega⟩
    simp only [l_Model_take_2]
    rw [if_pos (nI_le (by omega) (by omega)), nI_add]
    congr 1
    funext j
    rw [if_neg (by omega)]
  | succ m ih =>
    intro fuel k g hm hf hk
    obtain ⟨f, rfl⟩ : ∃ f, fuel = f + 1 := ⟨fuel - 1, by omega⟩
    simp only [l_Model_take_2]
    rw [if_neg (nI_ge (by omega) (by omega)), nI_add, nI_clamp (by omega), nI_clamp (by omega), nI_1, ih f (k + 1) _ (by omega) (by omega) (by omega)]
    congr 1
    funext j
    unfold uB
    by_cases h1 : j = bt + k
    · rw [if_neg (by omega), if_pos h1, if_pos (by omega), h1, show bt + k - bt = k by omega]
    · rw [if_neg h1]
      by_cases h2 : bt + k ≤ j ∧ j < bt + nx
      · rw [if_pos (by omega), if_pos h2]
      · rw [if_neg (by omega), if_neg h2]
theorem mt_f {nx bt : Nat} (nex out : Nat → Bool) (hn : nx ≤ 200000) (hb : bt ≤ 524288) : f_Model_take (nI nx) nex (nI bt) out = (nI (bt + nx), fun j => if bt ≤ j ∧ j < bt + nx then nex (j - bt) else out j) := by
  unfold f_Model_take
  rw [nI_toInt (by omega), ti_0]
  exact mt_2 hn hb nx _ 0 out rfl (by omega) (by omega)
/-! a line of the class and a line of the reference -/
def linR (wd : Nat) (pf : Nat → Int64) (of : Nat → Bool) : Prop := (∀ i, i < wd → gb pf i = of i) ∧ ∀ i, wd ≤ i → i < 64 * ((wd + 63) / 64) → gb pf i = false
def rowR (f : Nat → Int64) (c : Nat) (out : Nat → Bool) : Prop := ∀ i, i < 524288 → gb f i = (decide (i < c) && out i)
theorem rowR.clean {f : Nat → Int64} {c : Nat} {out : Nat → Bool} (h : rowR f c out) : ∀ i, c ≤ i → i < 524288 → gb f i = false := fun i a b => by rw [h i b, decide_eq_false (by omega)]; rfl
theorem whiten_R {wd : Nat} (hw : wd ≤ 10000) (pf : Nat → Int64) (ch : (Nat → Int32) × Int32) (of : Nat → Bool) : linR wd (f_Line_whiten wd pf ch).1 (stR of 0 wd false) := by
  obtain ⟨-, h⟩ := whiten_f hw pf ch
  refine ⟨fun i hi => ?_, fun i h1 h2 => h i h2⟩
  rw [h i (by omega)]
  unfold stR
  rw [if_pos (by omega)]
theorem fill_R {wd fr to : Nat} (hw : wd ≤ 10000) (hfr : fr < 2 ^ 31) {pf : Nat → Int64} {of : Nat → Bool} (bk : Bool) (h2 : to ≤ wd) (h : linR wd pf of) : linR wd (f_Line_fill wd pf (nI fr) (nI to) bk) (stR of fr to bk) := by
  refine ⟨fun i hi => ?_, fun i h3 h4 => ?_⟩
  · rw [fill_f hw hfr pf bk h2]
    unfold stR
    by_cases h9 : fr ≤ i ∧ i < to
    · rw [if_pos h9, if_pos h9]
    · rw [if_neg h9, if_neg h9]; exact h.1 i hi
  · rw [fill_f hw hfr pf bk h2, if_neg (by omega)]
    exact h.2 i h3 h4
/-- promise 2 -/
theorem paint_R {wd : Nat} (hw : wd ≤ 10000) {pf : Nat → Int64} {lin : Nat → Bool} (h : linR wd pf lin) (th fr n : Int32) (bk : Bool) :
    (f_DL_paint wd pf fr n bk).1 = (f_Model_paint wd th lin fr n bk).1 ∧ linR wd (f_DL_paint wd pf fr n bk).2 (f_Model_paint wd th lin fr n bk).2.2 := by
  unfold f_DL_paint f_Model_paint
  by_cases h1 : n < 1
  · rw [if_pos h1, if_pos h1]
    by_cases h2 : fr < 0
    · rw [if_pos h2]; exact ⟨rfl, h⟩
    · rw [if_neg h2]; exact ⟨rfl, h⟩
  · rw [if_neg h1, if_neg h1]
    by_cases h2 : fr < 0
    · rw [if_pos h2, if_pos h2]; exact ⟨rfl, h⟩
    · rw [if_neg h2, if_neg h2]
      obtain ⟨a, ha, rfl⟩ := nI_of h2
      obtain ⟨b, hb, rfl⟩ := nI_of (x := n) (fun h0 => h1 (by rw [ti_lt, ti_0] at h0; rw [ti_lt, ti_1]; omega))
      have hb1 : 1 ≤ b := by
        rcases Nat.eq_zero_or_pos b with e | e
        · subst e; exact absurd (by decide) h1
        · exact e
      by_cases h3 : wd ≤ a
      · rw [if_pos (nI_le h3 ha)]
        by_cases h4 : wd < b
        · rw [if_pos (nI_lt h4 hb)]; exact ⟨rfl, h⟩
        · rw [if_neg (nI_nlt (by omega) (by omega)), pk_sub (by omega), if_neg (nI_ge (by omega) (by omega))]; exact ⟨rfl, h⟩
      · rw [if_neg (nI_ge (by omega) (by omega)), pk_sub (by omega)]
        by_cases h5 : b ≤ wd - a
        · rw [if_pos (nI_le h5 (by omega)), if_neg (nI_nlt (by omega) (by omega)), pk_sub (by omega), if_pos (nI_le (by omega) (by omega)), nI_add]
          rw [mp_37 (wd := wd) (b := a + b) (nI_add a b) (by omega) (a + b - a) _ a lin rfl (by rw [nI_toInt (by omega), nI_toInt (by omega)]; omega) (by omega)]
          exact ⟨rfl, fill_R hw ha bk (by omega) h⟩
        · rw [if_neg (nI_ge (by omega) (by omega))]
          by_cases h4 : wd < b
          · rw [if_pos (nI_lt h4 hb)]; exact ⟨rfl, h⟩
          · rw [if_neg (nI_nlt (by omega) (by omega)), pk_sub (by omega), if_neg (nI_ge (by omega) (by omega))]; exact ⟨rfl, h⟩
/-! longs put together bit by bit -/
theorem l_ti (X : Int32) {m i : Nat} (hm : m ≤ 64) (hi : i < 64) : (lN m * X.toInt64 + (nI i).toInt64).toInt = (m : Int) * X.toInt + i := by
  have hx := ti_b X
  rw [Int64.toInt_add, Int64.toInt_mul, Int32.toInt_toInt64, Int32.toInt_toInt64, nI_toInt (by omega), lN_toInt (by omega)]
  have h1 : ((m : Int) * X.toInt).bmod (2 ^ 64) = (m : Int) * X.toInt := by
    apply Int.bmod_eq_of_le_mul_two
    · have : (m : Int) * X.toInt ≥ (m : Int) * (-2147483648) := Int.mul_le_mul_of_nonneg_left hx.1 (by omega)
      omega
    · have : (m : Int) * X.toInt ≤ (m : Int) * 2147483648 := Int.mul_le_mul_of_nonneg_left (by omega) (by omega)
      omega
  rw [h1]
  have h2 : (m : Int) * X.toInt ≥ (m : Int) * (-2147483648) := Int.mul_le_mul_of_nonneg_left hx.1 (by omega)
  have h3 : (m : Int) * X.toInt ≤ (m : Int) * 2147483648 := Int.mul_le_mul_of_nonneg_left (by omega) (by omega)
  apply Int.bmod_eq_of_le_mul_two <;> omega
/-- whether the place z (any whole number) of a row of c places has a true -/
def rb (of : Nat → Bool) (c : Nat) (z : Int) : Bool := decide (0 ≤ z) && (decide (z < c) && of z.toNat)
theorem sl1_b (y : Int64) (j : Nat) : (y <<< ((1 : Int32).toInt64 &&& 63)).toBitVec.getLsbD j = (decide (j < 64) && decide (1 ≤ j) && y.toBitVec.getLsbD (j - 1)) := sl_b y (r := 1) (by decide) j
theorem sl8_b (y : Int64) (j : Nat) : (y <<< ((8 : Int32).toInt64 &&& 63)).toBitVec.getLsbD j = (decide (j < 64) && decide (8 ≤ j) && y.toBitVec.getLsbD (j - 8)) := sl_b y (r := 8) (by decide) j
theorem one_b (j : Nat) : (1 : Int64).toBitVec.getLsbD j = decide (j = 0) := by
  have : (1 : Int64).toBitVec = 1#64 := by decide
  rw [this, BitVec.getLsbD_one]
  simp
theorem dots_s (y b : Int64) (v : Bool) (hb : b = if v then 1 else 0) (j : Nat) (hj : j < 64) : ((y <<< ((1 : Int32).toInt64 &&& 63)) ||| b).toBitVec.getLsbD j = if j = 0 then v else y.toBitVec.getLsbD (j - 1) := by
  rw [or_b, sl1_b, decide_eq_true hj]
  subst hb
  by_cases h0 : j = 0
  · subst h0
    cases v
    · simp [z_b]
    · simp [one_b]
  · rw [if_neg h0, decide_eq_true (show 1 ≤ j by omega)]
    cases v
    · simp [z_b]
    · simp [one_b, h0]
theorem dots_10 {wd : Nat} (hw : wd ≤ 10000) (rab : Nat → Bool) (th x : Int32) (z : Int32) : ∀ (m fuel i : Nat) (y : Int64), m + i = 64 → m < fuel → ∃ r, l_Model_dots_10 wd rab th x fuel y (nI i) z = (r, z) ∧
    ∀ j, j < 64 → r.toBitVec.getLsbD j = if j < m then rb rab wd (64 * x.toInt + (63 - j : Nat)) else y.toBitVec.getLsbD (j - m) := by
  intro m
  induction m with
  | zero =>
    intro fuel i y hm hf
    obtain ⟨f, rfl⟩ : ∃ f, fuel = f + 1 := ⟨fuel - 1, by omega⟩
    simp only [l_Model_dots_10]
    rw [show i = 64 by omega, if_pos (by decide)]
    exact ⟨y, rfl, fun j hj => by rw [if_neg (by omega), Nat.sub_zero]⟩
  | succ m ih =>
    intro fuel i y hm hf
    obtain ⟨f, rfl⟩ : ∃ f, fuel = f + 1 := ⟨fuel - 1, by omega⟩
    have hx := ti_b x
    have e2 : ((64 : Int64) * x.toInt64 + (nI i).toInt64).toInt = 64 * x.toInt + i := l_ti x (m := 64) (by decide) (by omega)
    have e0 : (0 : Int64).toInt = 0 := rfl
    have ew : ((nI wd).toInt64).toInt = wd := by rw [Int32.toInt_toInt64, nI_toInt (by omega)]
    have key : ∀ (b : Int64) (v : Bool), (b = if v then 1 else 0) → v = rb rab wd (64 * x.toInt + i) → ∃ r, l_Model_dots_10 wd rab th x f ((y <<< ((1 : Int32).toInt64 &&& 63)) ||| b) (nI (i + 1)) z = (r, z) ∧
        ∀ j, j < 64 → r.toBitVec.getLsbD j = if j < m + 1 then rb rab wd (64 * x.toInt + (63 - j : Nat)) else y.toBitVec.getLsbD (j - (m + 1)) := by
      intro b v hb hv
      obtain ⟨r, hr, h⟩ := ih f (i + 1) ((y <<< ((1 : Int32).toInt64 &&& 63)) ||| b) (by omega) (by omega)
      refine ⟨r, hr, fun j hj => ?_⟩
      rw [h j hj]
      by_cases h1 : j < m
      · rw [if_pos h1, if_pos (by omega)]
      · rw [if_neg h1, dots_s y b v hb _ (by omega)]
        by_cases h2 : j = m
        · rw [if_pos (by omega), if_pos (by omega), hv, show (63 - j : Nat) = i by omega]
        · rw [if_neg (by omega), if_neg (by omega), show j - m - 1 = j - (m + 1) by omega]
    simp only [l_Model_dots_10]
    rw [if_neg (show ¬ (64 : Int32) ≤ nI i from nI_ge (b := 64) (by omega) (by omega)), nI_1]
    by_cases h0 : 64 * x.toInt + i < 0
    · rw [if_pos ((lg_cmp_lt _ _).mpr (by rw [Int64.lt_iff_toInt_lt, e2, e0]; exact h0))]
      exact key 0 false rfl (by unfold rb; rw [decide_eq_false (by omega)]; rfl)
    · rw [if_neg (fun h => h0 (by have := (lg_cmp_lt _ _).mp h; rw [Int64.lt_iff_toInt_lt, e2, e0] at this; exact this))]
      by_cases h1 : 64 * x.toInt + i < wd
      · rw [if_neg (fun h => by have := (lg_cmp_ge _ _).mp h; rw [Int64.le_iff_toInt_le, e2, ew] at this; omega)]
        have e3 : ((64 : Int64) * x.toInt64 + (nI i).toInt64).toInt32.toNatClampNeg = (64 * x.toInt + i).toNat := by
          have e4 : ((64 : Int64) * x.toInt64 + (nI i).toInt64).toInt32 = nI (64 * x.toInt + i).toNat := by
            apply Int32.toInt_inj.mp
            rw [Int64.toInt_toInt32, e2, nI_toInt (by omega)]
            rw [Int.bmod_eq_of_le_mul_two (by omega) (by omega)]
            omega
          rw [e4, nI_clamp (by omega)]
        rw [e3]
        have hv : rab (64 * x.toInt + i).toNat = rb rab wd (64 * x.toInt + i) := by unfold rb; rw [decide_eq_true (by omega), decide_eq_true h1]; simp
        by_cases hb : rab (64 * x.toInt + i).toNat = true
        · rw [if_neg (by rw [hb]; decide)]
          exact key 1 true rfl (by rw [← hv, hb])
        · rw [if_pos (by rw [Bool.eq_false_iff.mpr hb]; decide)]
          exact key 0 false rfl (by rw [← hv, Bool.eq_false_iff.mpr hb])
      · rw [if_pos ((lg_cmp_ge _ _).mpr (by rw [Int64.le_iff_toInt_le, e2, ew]; omega))]
        exact key 0 false rfl (by unfold rb; rw [decide_eq_false h1]; simp)
/-- promise 13 -/
theorem dots_R {wd : Nat} (hw : wd ≤ 10000) {pf : Nat → Int64} {rab : Nat → Bool} (h : linR wd pf rab) (th x : Int32) : f_Model_dots wd rab th x = (f_DL_dots wd pf x, 0) := by
  unfold f_Model_dots
  obtain ⟨r, hr, hb⟩ := dots_10 hw rab th x 0 64 65 0 0 (by decide) (by decide)
  have e : (((64 : Int32).toInt - Int32.toInt (0 : Int32)).toNat + 1) = 65 := by decide
  rw [e]
  have hr' : l_Model_dots_10 wd rab th x 65 0 0 0 = (r, 0) := hr
  rw [hr']
  congr 1
  apply i64_ext
  intro j hj
  rw [hb j hj, if_pos hj]
  show _ = (f_Line_part wd pf x).toBitVec.getLsbD j
  have hx := ti_b x
  unfold f_Line_part rb
  by_cases h0 : x < 0
  · rw [if_pos h0, z_b]
    rw [ti_lt, ti_0] at h0
    rw [decide_eq_false (by omega)]; rfl
  · rw [if_neg h0]
    obtain ⟨a, ha, rfl⟩ := nI_of h0
    rw [nI_toInt ha]
    rw [decide_eq_true (by omega)]
    have hdv : (64 * a + (63 - j)) / 64 = a := by omega
    have hmd : 63 - (64 * a + (63 - j)) % 64 = j := by omega
    have hgb : gb pf (64 * a + (63 - j)) = (pf a).toBitVec.getLsbD j := by
      show (pf ((64 * a + (63 - j)) / 64)).toBitVec.getLsbD (63 - (64 * a + (63 - j)) % 64) = _
      rw [hdv, hmd]
    by_cases h1 : a < (wd + 63) / 64
    · rw [if_pos (nI_lt h1 (by omega)), nI_clamp ha, ← hgb, show (64 * (a : Int) + ((63 - j : Nat) : Int)).toNat = 64 * a + (63 - j) by omega]
      by_cases h2 : 64 * a + (63 - j) < wd
      · rw [decide_eq_true (by omega), h.1 _ h2]; simp
      · rw [decide_eq_false (by omega), h.2 _ (by omega) (by omega)]; simp
    · rw [if_neg (nI_nlt (by omega) (by omega)), z_b, decide_eq_false (by omega)]; simp
/-! a byte of the output, and eight of them -/
def byN (of : Nat → Bool) (c : Nat) (z : Int) : Nat → Nat
  | 0 => 0
  | m + 1 => 2 * byN of c z m + (rb of c (z + m)).toNat
theorem byN_lt (of : Nat → Bool) (c : Nat) (z : Int) : ∀ m, byN of c z m < 2 ^ m := by
  intro m
  induction m with
  | zero => exact Nat.one_pos
  | succ m ih =>
    unfold byN
    have : (rb of c (z + m)).toNat ≤ 1 := by cases rb of c (z + m) <;> decide
    rw [Nat.pow_succ]; omega
theorem byN_bit (of : Nat → Bool) (c : Nat) (z : Int) : ∀ m j, j < m → (byN of c z m).testBit j = rb of c (z + (m - 1 - j : Nat)) := by
  intro m
  induction m with
  | zero => intro j h; omega
  | succ m ih =>
    intro j h
    unfold byN
    cases j with
    | zero =>
      rw [Nat.testBit_zero, show m + 1 - 1 - 0 = m by omega]
      cases rb of c (z + m) <;> simp <;> omega
    | succ j =>
      have e : (2 * byN of c z m + (rb of c (z + m)).toNat) / 2 = byN of c z m := by
        have : (rb of c (z + m)).toNat ≤ 1 := by cases rb of c (z + m) <;> decide
        omega
      rw [Nat.testBit_succ, e, ih j (by omega), show m + 1 - 1 - (j + 1) = m - 1 - j by omega]
theorem bo_ti {x : Int64} {i : Nat} (h1 : -68719476736 ≤ x.toInt) (h2 : x.toInt < 68719476736) (hi : i < 64) : (8 * x + (nI i).toInt64).toInt = 8 * x.toInt + i := by
  rw [Int64.toInt_add, Int64.toInt_mul, Int32.toInt_toInt64, nI_toInt (by omega), show (8 : Int64).toInt = 8 from rfl]
  rw [Int.bmod_eq_of_le_mul_two (x := 8 * x.toInt) (by omega) (by omega)]
  apply Int.bmod_eq_of_le_mul_two <;> omega
theorem bo_5 {bt : Nat} (hb : bt ≤ 524288) (out : Nat → Bool) {x : Int64} (h1 : -68719476736 ≤ x.toInt) (h2 : x.toInt < 68719476736) : ∀ (m fuel i : Nat), m + i = 8 → m < fuel → l_Model_byteOut_5 (nI bt) out x fuel (nI (byN out bt (8 * x.toInt) i)) (nI i) = nI (byN out bt (8 * x.toInt) 8) := by
  intro m
  induction m with
  | zero =>
    intro fuel i hm hf
    obtain ⟨f, rfl⟩ : ∃ f, fuel = f + 1 := ⟨fuel - 1, by omega⟩
    simp only [l_Model_byteOut_5]
    rw [show i = 8 by omega, if_pos (by decide)]
  | succ m ih =>
    intro fuel i hm hf
    obtain ⟨f, rfl⟩ : ∃ f, fuel = f + 1 := ⟨fuel - 1, by omega⟩
    have e2 := bo_ti (x := x) (i := i) h1 h2 (by omega)
    have e0 : (0 : Int64).toInt = 0 := rfl
    have ew : ((nI bt).toInt64).toInt = bt := by rw [Int32.toInt_toInt64, nI_toInt (by omega)]
    have key : ∀ (b : Int32) (v : Bool), b = nI v.toNat → v = rb out bt (8 * x.toInt + i) → l_Model_byteOut_5 (nI bt) out x f (2 * nI (byN out bt (8 * x.toInt) i) + b) (nI (i + 1)) = nI (byN out bt (8 * x.toInt) 8) := by
      intro b v hb hv
      have e : 2 * nI (byN out bt (8 * x.toInt) i) + b = nI (byN out bt (8 * x.toInt) (i + 1)) := by
        rw [show (2 : Int32) * nI (byN out bt (8 * x.toInt) i) = nI (2 * byN out bt (8 * x.toInt) i) from pk_mul 2 _, hb, nI_add, hv]
        rfl
      rw [e]
      exact ih f (i + 1) (by omega) (by omega)
    simp only [l_Model_byteOut_5]
    rw [if_neg (show ¬ (8 : Int32) ≤ nI i from nI_ge (b := 8) (by omega) (by omega)), nI_1]
    by_cases h0 : 8 * x.toInt + i < 0
    · rw [if_pos ((lg_cmp_lt _ _).mpr (by rw [Int64.lt_iff_toInt_lt, e2, e0]; exact h0))]
      exact key 0 false rfl (by unfold rb; rw [decide_eq_false (by omega)]; rfl)
    · rw [if_neg (fun h => h0 (by have := (lg_cmp_lt _ _).mp h; rw [Int64.lt_iff_toInt_lt, e2, e0] at this; exact this))]
      by_cases h3 : 8 * x.toInt + i < bt
      · rw [if_neg (fun h => by have := (lg_cmp_ge _ _).mp h; rw [Int64.le_iff_toInt_le, e2, ew] at this; omega)]
        have e3 : (8 * x + (nI i).toInt64).toInt32.toNatClampNeg = (8 * x.toInt + i).toNat := by
          have e4 : (8 * x + (nI i).toInt64).toInt32 = nI (8 * x.toInt + i).toNat := by
            apply Int32.toInt_inj.mp
            rw [Int64.toInt_toInt32, e2, nI_toInt (by omega)]
            rw [Int.bmod_eq_of_le_mul_two (by omega) (by omega)]
            omega
          rw [e4, nI_clamp (by omega)]
        rw [e3]
        have hv : out (8 * x.toInt + i).toNat = rb out bt (8 * x.toInt + i) := by unfold rb; rw [decide_eq_true (by omega), decide_eq_true h3]; simp
        by_cases hb : out (8 * x.toInt + i).toNat = true
        · rw [if_neg (by rw [hb]; decide)]
          exact key 1 true rfl (by rw [← hv, hb])
        · rw [if_pos (by rw [Bool.eq_false_iff.mpr hb]; decide)]
          exact key 0 false rfl (by rw [← hv, Bool.eq_false_iff.mpr hb])
      · rw [if_pos ((lg_cmp_ge _ _).mpr (by rw [Int64.le_iff_toInt_le, e2, ew]; omega))]
        exact key 0 false rfl (by unfold rb; rw [decide_eq_false h3]; simp)
theorem bof_N {bt : Nat} (hb : bt ≤ 524288) (out : Nat → Bool) {x : Int64} (h1 : -68719476736 ≤ x.toInt) (h2 : x.toInt < 68719476736) : f_Model_byteOut (nI bt) out x = nI (byN out bt (8 * x.toInt) 8) := by
  unfold f_Model_byteOut
  exact bo_5 hb out h1 h2 8 9 0 (by decide) (by decide)
theorem nI_tb {n : Nat} (h : n < 2 ^ 31) (j : Nat) : (nI n).toInt64.toBitVec.getLsbD j = n.testBit j := by
  have e : (nI n).toInt64 = lN n := nI_l h
  rw [e]
  show (BitVec.ofNat 64 n).getLsbD j = _
  rw [BitVec.getLsbD_ofNat]
  by_cases hj : j < 64
  · rw [decide_eq_true hj]; simp
  · rw [decide_eq_false hj]
    have : n.testBit j = false := Nat.testBit_lt_two_pow (Nat.lt_of_lt_of_le (show n < 2 ^ 64 by omega) (Nat.pow_le_pow_right (by decide) (by omega)))
    rw [this]; rfl
theorem out_10 {bt : Nat} (hb : bt ≤ 524288) (out : Nat → Bool) (th x : Int32) : ∀ (m fuel i : Nat) (y : Int64), m + i = 8 → m < fuel → ∃ r, l_Model_out_10 (nI bt) out th x fuel y (nI i) = (r, 0) ∧
    ∀ j, j < 64 → r.toBitVec.getLsbD j = if j < 8 * m then rb out bt (64 * x.toInt + (63 - j : Nat)) else y.toBitVec.getLsbD (j - 8 * m) := by
  intro m
  induction m with
  | zero =>
    intro fuel i y hm hf
    obtain ⟨f, rfl⟩ : ∃ f, fuel = f + 1 := ⟨fuel - 1, by omega⟩
    simp only [l_Model_out_10]
    rw [show i = 8 by omega, if_pos (by decide)]
    exact ⟨y, rfl, fun j hj => by rw [if_neg (by omega), Nat.mul_zero, Nat.sub_zero]⟩
  | succ m ih =>
    intro fuel i y hm hf
    obtain ⟨f, rfl⟩ : ∃ f, fuel = f + 1 := ⟨fuel - 1, by omega⟩
    have hx := ti_b x
    have e2 : ((8 : Int64) * x.toInt64 + (nI i).toInt64).toInt = 8 * x.toInt + i := l_ti x (m := 8) (by decide) (by omega)
    simp only [l_Model_out_10]
    rw [if_neg (show ¬ (8 : Int32) ≤ nI i from nI_ge (b := 8) (by omega) (by omega)), nI_1, bof_N hb out (by omega) (by omega), e2]
    obtain ⟨r, hr, h⟩ := ih f (i + 1) ((y <<< ((8 : Int32).toInt64 &&& 63)) ||| (nI (byN out bt (8 * (8 * x.toInt + i)) 8)).toInt64) (by omega) (by omega)
    refine ⟨r, hr, fun j hj => ?_⟩
    have hlt := byN_lt out bt (8 * (8 * x.toInt + i)) 8
    rw [h j hj]
    by_cases h1 : j < 8 * m
    · rw [if_pos h1, if_pos (by omega)]
    · rw [if_neg h1, or_b, sl8_b, nI_tb (by omega), decide_eq_true (show j - 8 * m < 64 by omega)]
      by_cases h2 : j < 8 * (m + 1)
      · rw [if_pos h2, decide_eq_false (show ¬ 8 ≤ j - 8 * m by omega), byN_bit _ _ _ 8 _ (by omega)]
        have e9 : (8 * (8 * x.toInt + i) + ((8 - 1 - (j - 8 * m) : Nat) : Int)) = 64 * x.toInt + ((63 - j : Nat) : Int) := by omega
        rw [e9]; simp
      · rw [if_neg h2, decide_eq_true (show 8 ≤ j - 8 * m by omega), Nat.testBit_lt_two_pow (Nat.lt_of_lt_of_le hlt (Nat.pow_le_pow_right (by decide) (by omega))), show j - 8 * m - 8 = j - 8 * (m + 1) by omega]
        simp
/-- promise 6 -/
theorem out_R {f : Nat → Int64} {c : Nat} {out : Nat → Bool} (hc : c ≤ 524288) (h : rowR f c out) (th x : Int32) : f_Model_out (nI c) out th x = (f_DL_out (f, nI c) x, 0) := by
  unfold f_Model_out
  obtain ⟨r, hr, hb⟩ := out_10 hc out th x 8 9 0 0 (by decide) (by decide)
  have e : (((8 : Int32).toInt - Int32.toInt (0 : Int32)).toNat + 1) = 9 := by decide
  rw [e]
  have hr' : l_Model_out_10 (nI c) out th x 9 0 0 = (r, 0) := hr
  rw [hr']
  congr 1
  apply i64_ext
  intro j hj
  rw [hb j hj, if_pos (by omega)]
  show _ = (f_Bits_part (f, nI c) x).toBitVec.getLsbD j
  have hx := ti_b x
  unfold f_Bits_part rb
  by_cases h0 : x < 0
  · rw [if_pos h0, z_b]
    rw [ti_lt, ti_0] at h0
    rw [decide_eq_false (by omega)]; rfl
  · rw [if_neg h0]
    obtain ⟨a, ha, rfl⟩ := nI_of h0
    rw [nI_toInt ha]
    rw [decide_eq_true (by omega)]
    have hdv : (64 * a + (63 - j)) / 64 = a := by omega
    have hmd : 63 - (64 * a + (63 - j)) % 64 = j := by omega
    have hgb : gb f (64 * a + (63 - j)) = (f a).toBitVec.getLsbD j := by
      show (f ((64 * a + (63 - j)) / 64)).toBitVec.getLsbD (63 - (64 * a + (63 - j)) % 64) = _
      rw [hdv, hmd]
    by_cases h1 : a < 8192
    · rw [if_pos (nI_lt h1 (by omega))]
      dsimp only
      rw [nI_clamp ha, ← hgb, show (64 * (a : Int) + ((63 - j : Nat) : Int)).toNat = 64 * a + (63 - j) by omega, h _ (by omega)]
      by_cases h2 : 64 * a + (63 - j) < c
      · rw [decide_eq_true h2, decide_eq_true (show (64 * (a : Int) + ((63 - j : Nat) : Int)) < c by omega)]; simp
      · rw [decide_eq_false h2, decide_eq_false (show ¬ (64 * (a : Int) + ((63 - j : Nat) : Int)) < c by omega)]; simp
    · rw [if_neg (nI_nlt (by omega) (by omega)), z_b, decide_eq_false (by omega)]; simp
/-! the input: bits of a row of longs against those of a row of bytes -/
def bb (v : Int32) (j : Nat) : Bool := v.toBitVec.getLsbD j
def inR (f : Nat → Int64) (gv : Nat) (inp : Nat → Int32) : Prop := ∀ i, i < 524288 → gb f i = (decide (i < 8 * gv) && bb (inp (i / 8)) (7 - i % 8))
theorem inR.clean {f : Nat → Int64} {gv : Nat} {inp : Nat → Int32} (h : inR f gv inp) : ∀ i, 8 * gv ≤ i → i < 524288 → gb f i = false := fun i a b => by rw [h i b, decide_eq_false (by omega)]; rfl
theorem gv_k : ∀ k, k < 8 → ((nI (8 * k)).toInt64 &&& 63).toBitVec.smod 64 = BitVec.ofNat 64 (8 * k) := by decide +kernel
theorem gv_b (x : Int64) {k : Nat} (hk : k < 8) {j : Nat} (hj : j < 8) : bb (((x >>> ((nI (8 * k)).toInt64 &&& 63)) &&& 255).toInt32) j = x.toBitVec.getLsbD (8 * k + j) := by
  unfold bb
  have e255 : ∀ j, j < 8 → (255 : Int64).toBitVec.getLsbD j = true := by decide
  rw [Int64.toBitVec_toInt32, BitVec.getLsbD_signExtend, decide_eq_true (show j < 32 by omega), if_pos (show j < 64 by omega), and_b, e255 j hj, Int64.toBitVec_shiftRight, gv_k k hk]
  rw [BitVec.sshiftRight_eq', bn_k (by omega), BitVec.getLsbD_sshiftRight]
  have h9 : ¬ 64 ≤ j := by omega
  simp [h9]
  intro h; omega
