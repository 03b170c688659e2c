/-! the reference's begins and placeOf -/
/-- w halved until it is at most v -/
def sdn : Nat → Nat → Nat → Nat
  | 0, w, _ => w
  | f + 1, w, v => if w ≤ v then w else sdn f (w / 2) v
def isPre (v w : Nat) : Bool := sdn (w + 1) w v == v
theorem sdn_le (v : Nat) : ∀ (f w : Nat), sdn f w v ≤ w := by
  intro f
  induction f with
  | zero => intro w; exact Nat.le_refl _
  | succ f ih =>
    intro w
    unfold sdn
    split
    · exact Nat.le_refl _
    · exact Nat.le_trans (ih (w / 2)) (Nat.div_le_self _ _)
theorem isPre_le {v w : Nat} (h : isPre v w = true) : v ≤ w := by
  have := sdn_le v (w + 1) w
  unfold isPre at h
  rw [beq_iff_eq] at h
  omega
def anyP (P : Nat → Bool) : Nat → Nat → Bool
  | 0, _ => false
  | n + 1, k => P k || anyP P n (k + 1)
theorem anyP_iff (P : Nat → Bool) : ∀ (n k : Nat), anyP P n k = true ↔ ∃ i, k ≤ i ∧ i < k + n ∧ P i = true := by
  intro n
  induction n with
  | zero => intro k; simp [anyP]; intro i h1 h2; omega
  | succ n ih =>
    intro k
    unfold anyP
    rw [Bool.or_eq_true, ih]
    constructor
    · rintro (h | ⟨i, a, b, c⟩)
      · exact ⟨k, by omega, by omega, h⟩
      · exact ⟨i, by omega, by omega, c⟩
    · rintro ⟨i, a, b, c⟩
      rcases Nat.eq_or_lt_of_le a with e | e
      · subst e; exact Or.inl c
      · exact Or.inr ⟨i, by omega, by omega, c⟩
theorem bg_18 (of : Nat → Int32) (my : Int32) {V : Nat} (hV : V < 2 ^ 31) (rec6 : Bool → Int32 → Int32) (y5 : Int32) (y4 : Bool) : ∀ (f w : Nat), w < f → w < 2 ^ 31 → l_Model_begins_18 of my (nI V) rec6 f (nI w) y5 y4 = rec6 (y4 || (sdn f w V == V)) (y5 + 1) := by
  intro f
  induction f with
  | zero => intro w h; omega
  | succ f ih =>
    intro w h hw
    simp only [l_Model_begins_18, sdn]
    by_cases h1 : w ≤ V
    · rw [if_pos (nI_le h1 hV), if_pos h1]
      cases y4
      · rw [if_pos (by decide)]
        by_cases h2 : w = V
        · rw [if_pos (by rw [h2])]; simp [h2]
        · rw [if_neg (fun e => h2 ((nI_eq hw hV).mp e)), show (w == V) = false from beq_eq_false_iff_ne.mpr h2]; rfl
      · rw [if_neg (by decide)]; simp
    · rw [if_neg (nI_ge (by omega) hw), if_neg h1]
      rw [show nI w >>> ((1 : Int32) &&& 31) = nI (w / 2) from pk_shrN hw _ 1 (by decide)]
      exact ih (w / 2) (by omega) (by omega)
theorem bg_6 (of : Nat → Int32) {M V : Nat} (hM : M < 1000) (hV : V < 2 ^ 31) (hof : ∀ k, k < M → 0 ≤ (of k).toInt) : ∀ (f k : Nat) (y : Bool), M - k < f → k ≤ M → l_Model_begins_6 of (nI M) (nI V) f y (nI k) = bI (y || anyP (fun i => isPre V (of i).toNatClampNeg) (M - k) k) := by
  intro f
  induction f with
  | zero => intro k y h; omega
  | succ f ih =>
    intro k y h hk
    simp only [l_Model_begins_6]
    by_cases h1 : M ≤ k
    · rw [if_pos (nI_le h1 (by omega)), show M - k = 0 by omega]; simp [anyP]
    · rw [if_neg (nI_ge (by omega) (by omega)), nI_clamp (by omega)]
      obtain ⟨w, hw, ew, e2⟩ := ti_nn (hof k (by omega))
      rw [ew, nI_toInt hw, show ((w : Int)).toNat = w by omega, bg_18 of _ hV _ _ _ _ w (by omega) hw, nI_1, ih (k + 1) _ (by omega) (by omega), show M - k = (M - (k + 1)) + 1 by omega]
      simp only [anyP, isPre]
      rw [ew, nI_clamp hw, Bool.or_assoc]
theorem bg_f (of : Nat → Int32) {M V : Nat} (hM : M < 1000) (hV : V < 2 ^ 31) (hof : ∀ k, k < M → 0 ≤ (of k).toInt) : f_Model_begins of (nI M) (nI V) = bI (anyP (fun i => isPre V (of i).toNatClampNeg) M 0) := by
  unfold f_Model_begins
  rw [nI_toInt (by omega), ti_0, show ((M : Int) - 0).toNat = M by omega]
  have := bg_6 of hM hV hof (M + 1) 0 false (by omega) (by omega)
  rw [Nat.sub_zero, Bool.false_or] at this
  exact this
def plc (of : Nat → Int32) (v : Int32) : Nat → Nat → Int32 → Int32
  | 0, _, q => q
  | n + 1, k, q => plc of v n (k + 1) (if of k = v then nI k else q)
theorem pl_5 (of : Nat → Int32) {M : Nat} (hM : M < 1000) (x : Int32) : ∀ (f k : Nat) (y : Int32), M - k < f → k ≤ M → l_Model_placeOf_5 of (nI M) x f y (nI k) = plc of x (M - k) k y := by
  intro f
  induction f with
  | zero => intro k y h; omega
  | succ f ih =>
    intro k y h hk
    simp only [l_Model_placeOf_5]
    by_cases h1 : M ≤ k
    · rw [if_pos (nI_le h1 (by omega)), show M - k = 0 by omega]; rfl
    · rw [if_neg (nI_ge (by omega) (by omega)), nI_clamp (by omega), nI_1, show M - k = (M - (k + 1)) + 1 by omega]
      simp only [plc]
      split <;> exact ih (k + 1) _ (by omega) (by omega)
theorem pl_f (of : Nat → Int32) {M : Nat} (hM : M < 1000) (x : Int32) : f_Model_placeOf of (nI M) x = plc of x M 0 (-1) := by
  unfold f_Model_placeOf
  rw [nI_toInt (by omega), ti_0, show ((M : Int) - 0).toNat = M by omega]
  exact pl_5 of hM x (M + 1) 0 (-1) (by omega) (by omega)
theorem plc_in (of : Nat → Int32) (v : Int32) : ∀ (n k : Nat) (q : Int32), plc of v n k q = q ∨ ∃ j, k ≤ j ∧ j < k + n ∧ plc of v n k q = nI j ∧ of j = v := by
  intro n
  induction n with
  | zero => intro k q; exact Or.inl rfl
  | succ n ih =>
    intro k q
    simp only [plc]
    rcases ih (k + 1) (if of k = v then nI k else q) with h | ⟨j, a, b, c, d⟩
    · by_cases e : of k = v
      · rw [if_pos e] at h ⊢
        exact Or.inr ⟨k, by omega, by omega, h, e⟩
      · rw [if_neg e] at h ⊢
        exact Or.inl h
    · exact Or.inr ⟨j, by omega, by omega, c, d⟩
theorem pl_b {of : Nat → Int32} {my x : Int32} {M : Nat} (e : my = nI M) (hM : M < 1000) : -1 ≤ (f_Model_placeOf of my x).toInt ∧ (f_Model_placeOf of my x).toInt < M := by
  rw [e, pl_f of hM]
  rcases plc_in of x M 0 (-1) with h | ⟨j, a, b, c, d⟩
  · rw [h, ti_m1]; omega
  · rw [c, nI_toInt (by omega)]; omega
theorem bg_b {of : Nat → Int32} {my x : Int32} {M : Nat} (e : my = nI M) (hM : M < 1000) (hx : 0 ≤ x.toInt) (hof : ∀ k, k < M → wok (of k)) (h : ¬ f_Model_begins of my x = 0) : x.toInt < 16384 := by
  obtain ⟨V, hV, rfl, eV⟩ := ti_nn hx
  rw [e, bg_f of hM hV (fun k hk => by have := (hof k hk).1; omega), bI_0, Bool.not_eq_false, anyP_iff] at h
  obtain ⟨i, -, a, b⟩ := h
  have h1 := isPre_le b
  obtain ⟨w1, w2⟩ := hof i (by omega)
  obtain ⟨w, hw, ew, e2⟩ := ti_nn (x := of i) (by omega)
  rw [ew, nI_clamp hw] at h1
  omega
