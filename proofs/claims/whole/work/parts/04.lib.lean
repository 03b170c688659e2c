/-! small rows of my own: booleans as ints, indices, loops with fuel -/
def bI : Bool → Int32 | true => 1 | false => 0
theorem na_bI (b : Bool) : narrow .boolean (.int (bI b)) = .int (bI b) := by cases b <;> rfl
theorem fi_bI (b : Bool) : fits .boolean (.int (bI b)) = true := by cases b <;> rfl
theorem ix_a {i : Int32} {n : Nat} (hn : n < 2147483648) (h1 : ¬ i < 0) (h2 : i < nI n) : vp_in i n := by
  refine vp_in_iff.mpr ⟨?_, ?_⟩
  · have := Int32.le_iff_toInt_le.mp (Int32.not_lt.mp h1); simpa using this
  · have := Int32.lt_iff_toInt_lt.mp h2; rwa [nI_toInt hn] at this
theorem ix_b {i : Int32} {n : Nat} (hn : n < 2147483648) (h1 : ¬ i < 0) (h2 : ¬ nI n ≤ i) : vp_in i n := ix_a hn h1 (Int32.not_le.mp h2)
theorem ix_c {i : Int32} {n : Nat} (hn : n < 2147483648) (h1 : 0 ≤ i) (h2 : i < nI n) : vp_in i n := ix_a hn (Int32.not_lt.mpr h1) h2
theorem ix_d {i : Int32} {n : Nat} (hn : n < 2147483648) (h1 : 0 ≤ i) (h2 : ¬ nI n ≤ i) : vp_in i n := ix_b hn (Int32.not_lt.mpr h1) h2
theorem mu_a {i b : Int32} (h : i < b) : (b.toInt - (i + 1).toInt).toNat < (b.toInt - i.toInt).toNat := by
  have h1 := Int32.lt_iff_toInt_lt.mp h
  have h2 := Int32.toInt_lt b
  have h3 := Int32.le_toInt i
  have h4 : (i + 1).toInt = i.toInt + 1 := by
    rw [Int32.toInt_add, show (1 : Int32).toInt = 1 from rfl, Int.bmod_def]
    omega
  omega
theorem mu_b {i b : Int32} (h : ¬ b ≤ i) : (b.toInt - (i + 1).toInt).toNat < (b.toInt - i.toInt).toNat := mu_a (Int32.not_le.mp h)
section
variable {p : Program} {l : Launch} {e : Env} {R : Room} {s : State} {m : MethodId} {args : Array Value} {below : List Frame} {meth : Method} {c : Code} {cells slots pc : Nat} {Q : State → Prop} {st : List Value}
/-- a loop, by its fuel -/
theorem lp_n {σ : Type} (I : Nat → σ → Heap → List Loc → Array Slot → Prop) (h0 : ∀ v H locs ls, ¬ I 0 v H locs ls)
    (hs : ∀ n, (∀ v H locs ls, I n v H locs ls → W p l e R s m args below meth c H locs cells slots Q (F0 m pc ls st)) → ∀ v H locs ls, I (n + 1) v H locs ls → W p l e R s m args below meth c H locs cells slots Q (F0 m pc ls st)) :
    ∀ n v H locs ls, I n v H locs ls → W p l e R s m args below meth c H locs cells slots Q (F0 m pc ls st) := by
  intro n
  induction n with
  | zero => exact fun v H locs ls h => absurd h (h0 v H locs ls)
  | succ n ih => exact hs n ih
end
