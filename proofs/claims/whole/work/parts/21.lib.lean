/-! rows for the reference: booleans in arrays, ints by their values -/
def uB (f : Nat → Bool) (k : Nat) (b : Bool) : Nat → Bool := fun j => if j = k then b else f j
theorem zupd {f : Nat → Bool} {k : Nat} {b : Bool} : upd (fun j => bI (f j)) k (vp_nar .boolean (bI b)) = fun j => bI (uB f k b j) := by
  funext j
  unfold upd uB
  by_cases h : j = k
  · rw [if_pos h, if_pos h]; cases b <;> rfl
  · rw [if_neg h, if_neg h]
theorem ti_add {a b : Int32} (h1 : -2147483648 ≤ a.toInt + b.toInt) (h2 : a.toInt + b.toInt < 2147483648) : (a + b).toInt = a.toInt + b.toInt := by
  rw [Int32.toInt_add, Int.bmod_def]; omega
theorem ti_sub {a b : Int32} (h1 : -2147483648 ≤ a.toInt - b.toInt) (h2 : a.toInt - b.toInt < 2147483648) : (a - b).toInt = a.toInt - b.toInt := by
  rw [Int32.toInt_sub, Int.bmod_def]; omega
theorem ti_lt {a b : Int32} : a < b ↔ a.toInt < b.toInt := Int32.lt_iff_toInt_lt
theorem ti_le {a b : Int32} : a ≤ b ↔ a.toInt ≤ b.toInt := Int32.le_iff_toInt_le
theorem ti_0 : (0 : Int32).toInt = 0 := rfl
theorem ti_1 : (1 : Int32).toInt = 1 := rfl
theorem ti_m1 : (-1 : Int32).toInt = -1 := rfl
theorem ti_in {x : Int32} {n : Nat} (h1 : 0 ≤ x.toInt) (h2 : x.toInt < n) : vp_in x n := vp_in_iff.mpr ⟨h1, h2⟩
theorem ti_b (x : Int32) : -2147483648 ≤ x.toInt ∧ x.toInt < 2147483648 := ⟨Int32.le_toInt x, Int32.toInt_lt x⟩
theorem ix_p {x : Int32} {n : Nat} (hn : n ≤ 10000) (h1 : ¬ x ≤ 0) (h2 : ¬ nI n ≤ x) : vp_in (x - 1) n := by
  rw [ti_le, ti_0] at h1
  rw [ti_le, nI_toInt (by omega)] at h2
  have h3 : (x - 1).toInt = x.toInt - 1 := by rw [ti_sub (by rw [ti_1]; omega) (by rw [ti_1]; omega), ti_1]
  exact ti_in (by omega) (by omega)
theorem pt_s {x n : Int32} {w : Nat} (hw : w ≤ 10000) (h1 : ¬ x < 0) (h2 : ¬ n < 1) (h3 : ¬ nI w < n) (h4 : x ≤ nI w - n) : (x + n).toInt = x.toInt + n.toInt ∧ x.toInt + n.toInt ≤ w := by
  rw [ti_lt, ti_0] at h1
  rw [ti_lt, ti_1] at h2
  rw [ti_lt, nI_toInt (by omega)] at h3
  rw [ti_le, ti_sub (by rw [nI_toInt (by omega)]; omega) (by rw [nI_toInt (by omega)]; omega), nI_toInt (by omega)] at h4
  exact ⟨ti_add (by omega) (by omega), by omega⟩
theorem ix_pt {x n k : Int32} {w : Nat} (hw : w ≤ 10000) (h1 : ¬ x < 0) (h2 : ¬ n < 1) (h3 : ¬ nI w < n) (h4 : x ≤ nI w - n) (hk : ¬ k < 0) (h5 : ¬ (x + n) ≤ k) : vp_in k w := by
  obtain ⟨a, b⟩ := pt_s hw h1 h2 h3 h4
  rw [ti_lt, ti_0] at hk
  rw [ti_le, a] at h5
  exact ti_in (by omega) (by omega)
theorem nn_pt {x n k : Int32} {w : Nat} (hw : w ≤ 10000) (h1 : ¬ x < 0) (h2 : ¬ n < 1) (h3 : ¬ nI w < n) (h4 : x ≤ nI w - n) (hk : ¬ k < 0) (h5 : ¬ (x + n) ≤ k) : ¬ (k + 1) < 0 := by
  obtain ⟨a, b⟩ := pt_s hw h1 h2 h3 h4
  rw [ti_lt, ti_0] at hk
  rw [ti_le, a] at h5
  rw [ti_lt, ti_0, ti_add (by rw [ti_1]; omega) (by rw [ti_1]; omega), ti_1]
  omega
theorem w_shr31 (w : Int32) : (w >>> ((31 : Int32) &&& 31)) ≤ 1 := by
  rw [ti_le, pk_shr w _ 31 (by decide), ti_1, Int.shiftRight_eq_div_pow]
  have := ti_b w
  omega
theorem w_30 {w n : Int32} (h0 : 0 ≤ n.toInt) (h1 : n.toInt ≤ 31) (h : ¬ (w >>> (n &&& 31)) ≤ 1) : n.toInt ≤ 30 := by
  rcases Int.lt_or_le n.toInt 31 with q | q
  · omega
  · have e : n = 31 := Int32.toInt_inj.mp (by rw [show (31 : Int32).toInt = 31 from rfl]; omega)
    rw [e] at h
    exact absurd (w_shr31 w) h
section
variable {p : Program} {l : Launch} {e : Env} {R : Room} {s : State} {m : MethodId} {args : Array Value} {below : List Frame} {meth : Method} {c : Code} {cells slots : Nat} {Q : State → Prop}
/-- a place that several roads reach -/
theorem W.join {σ : Type} {pcJ : Nat} {stJ : List Value} {H0 : Heap} {locs0 : List Loc} {g : JFrame} (I : σ → Heap → List Loc → Array Slot → Prop)
    (tail : ∀ v H locs ls, I v H locs ls → W p l e R s m args below meth c H locs cells slots Q (F0 m pcJ ls stJ))
    (main : (∀ v H locs ls, I v H locs ls → W p l e R s m args below meth c H locs cells slots Q (F0 m pcJ ls stJ)) → W p l e R s m args below meth c H0 locs0 cells slots Q g) : W p l e R s m args below meth c H0 locs0 cells slots Q g := main tail
end
