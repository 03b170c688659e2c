/-! the first place from x on that p holds at, and the reference's two searches -/
theorem bI_inj {a b : Bool} : bI a = bI b ↔ a = b := by cases a <;> cases b <;> decide
theorem bI_0 {a : Bool} : bI a = 0 ↔ a = false := by cases a <;> decide
theorem bI_1 {a : Bool} : bI a = 1 ↔ a = true := by cases a <;> decide
def nxt (p : Nat → Bool) (wd : Nat) : Nat → Nat → Nat
  | 0, _ => wd
  | f + 1, x => if wd ≤ x then wd else if p x = true then x else nxt p wd f (x + 1)
/-- the first place from x on, below wd, that p holds at; wd if there is none -/
def fst (p : Nat → Bool) (wd x : Nat) : Nat := nxt p wd (wd - x + 1) x
theorem nxt_sp (p : Nat → Bool) (wd : Nat) : ∀ (f x : Nat), wd - x < f → x ≤ wd → x ≤ nxt p wd f x ∧ nxt p wd f x ≤ wd ∧ (∀ i, x ≤ i → i < nxt p wd f x → p i = false) ∧ (nxt p wd f x < wd → p (nxt p wd f x) = true) := by
  intro f
  induction f with
  | zero => intro x h; omega
  | succ f ih =>
    intro x h hx
    unfold nxt
    by_cases h1 : wd ≤ x
    · rw [if_pos h1]; exact ⟨hx, Nat.le_refl _, fun i a b => by omega, fun a => by omega⟩
    · rw [if_neg h1]
      by_cases h2 : p x = true
      · rw [if_pos h2]; exact ⟨Nat.le_refl _, hx, fun i a b => by omega, fun _ => h2⟩
      · rw [if_neg h2]
        obtain ⟨a, b, c, d⟩ := ih (x + 1) (by omega) (by omega)
        refine ⟨by omega, b, fun i h3 h4 => ?_, d⟩
        rcases Nat.eq_or_lt_of_le h3 with e | e
        · rw [← e]; exact Bool.eq_false_iff.mpr h2
        · exact c i e h4
theorem fst_sp (p : Nat → Bool) {wd x : Nat} (hx : x ≤ wd) : x ≤ fst p wd x ∧ fst p wd x ≤ wd ∧ (∀ i, x ≤ i → i < fst p wd x → p i = false) ∧ (fst p wd x < wd → p (fst p wd x) = true) := nxt_sp p wd _ x (by omega) hx
theorem fst_un {p : Nat → Bool} {wd x y : Nat} (hx : x ≤ y) (hy : y ≤ wd) (h1 : ∀ i, x ≤ i → i < y → p i = false) (h2 : y < wd → p y = true) : fst p wd x = y := by
  obtain ⟨a, b, c, d⟩ := fst_sp p (wd := wd) (x := x) (by omega)
  rcases Nat.lt_trichotomy (fst p wd x) y with h | h | h
  · have := h1 _ a h
    rw [d (by omega)] at this; cases this
  · exact h
  · have := c y hx h
    rw [h2 (by omega)] at this; cases this
theorem md_5 (of : Nat → Bool) {wd : Nat} (hwd : wd ≤ 10000) (pl : Int32) (bk : Bool) : ∀ (f x : Nat), wd - x < f → x ≤ wd → l_Model_dotAfter_5 of wd pl bk f (nI x) = nI (nxt (fun i => of i == bk) wd f x) := by
  intro f
  induction f with
  | zero => intro x h; omega
  | succ f ih =>
    intro x h hx
    simp only [l_Model_dotAfter_5, nxt]
    rw [nI_clamp (by omega), nI_1]
    by_cases h1 : wd ≤ x
    · rw [if_pos (nI_le h1 (by omega)), if_pos h1]
    · rw [if_neg (nI_ge (by omega) (by omega)), if_neg h1]
      by_cases h2 : of x = bk
      · rw [if_pos (bI_inj.mpr h2), if_pos (by simp [h2])]
      · rw [if_neg (fun e => h2 (bI_inj.mp e)), if_neg (by simp [h2]), ih (x + 1) (by omega) (by omega)]
theorem md_f (of : Nat → Bool) {wd x : Nat} (hwd : wd ≤ 10000) {pl : Int32} (hp : pl + 1 = nI x) (hx : x ≤ wd) (bk : Bool) : f_Model_dotAfter of wd pl bk = nI (fst (fun i => of i == bk) wd x) := by
  unfold f_Model_dotAfter
  simp only [hp]
  rw [nI_toInt (by omega), nI_toInt (by omega), show ((wd : Int) - (x : Int)).toNat = wd - x by omega]
  exact md_5 of hwd pl bk _ x (by omega) hx
/-- a change to the colour bk -/
def chg (of : Nat → Bool) (bk : Bool) (i : Nat) : Bool := (of i != (decide (0 < i) && of (i - 1))) && (of i == bk)
theorem mc_5 (of : Nat → Bool) {wd : Nat} (hwd : wd ≤ 10000) (pl : Int32) (bk : Bool) : ∀ (f x : Nat), wd - x < f → x ≤ wd → l_Model_changeAfter_5 of wd pl bk f (nI x) = nI (nxt (chg of bk) wd f x) := by
  intro f
  induction f with
  | zero => intro x h; omega
  | succ f ih =>
    intro x h hx
    simp only [l_Model_changeAfter_5, nxt]
    rw [nI_clamp (by omega), nI_1]
    by_cases h1 : wd ≤ x
    · rw [if_pos (nI_le h1 (by omega)), if_pos h1]
    · have ih := ih (x + 1) (by omega) (by omega)
      rw [if_neg (nI_ge (by omega) (by omega)), if_neg h1, ih]
      by_cases h0 : x = 0
      · subst h0
        rw [if_pos (by decide)]
        cases h2 : of 0 <;> cases bk <;> simp [chg, h2, bI]
      · rw [if_neg (by rw [ti_le, nI_toInt (by omega), ti_0]; omega), show (1 : Int32) = nI 1 from rfl, pk_sub (by omega), nI_clamp (by omega)]
        cases h2 : of x <;> cases h3 : of (x - 1) <;> cases bk <;> simp [chg, h2, h3, bI, nI, show 0 < x by omega]
theorem mc_f (of : Nat → Bool) {wd x : Nat} (hwd : wd ≤ 10000) {pl : Int32} (hp : pl + 1 = nI x) (hx : x ≤ wd) (bk : Bool) : f_Model_changeAfter of wd pl bk = nI (fst (chg of bk) wd x) := by
  unfold f_Model_changeAfter
  simp only [hp]
  rw [nI_toInt (by omega), nI_toInt (by omega), show ((wd : Int) - (x : Int)).toNat = wd - x by omega]
  exact mc_5 of hwd pl bk _ x (by omega) hx
