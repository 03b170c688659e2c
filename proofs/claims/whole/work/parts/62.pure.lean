/-! what a line is coded as: its words, and how many there are of each kind -/
def a2N (lin : Nat → Bool) (wd a1 : Nat) (bk : Bool) : Nat := if a1 = wd then wd else fst (fun i => lin i == bk) wd (a1 + 1)
def lwS (wd : Nat) (lin abo : Nat → Bool) : Nat → Nat → Bool → List Bool × (Nat × Nat × Nat)
  | 0, _, _ => ([], (0, 0, 0))
  | m + 1, X, bk => if wd < X then ([], (0, 0, 0)) else
      if b2N abo wd X bk < fst (fun i => lin i == !bk) wd X then
        (wl 17 ++ (lwS wd lin abo m (b2N abo wd X bk + 1) bk).1, ((lwS wd lin abo m (b2N abo wd X bk + 1) bk).2.1 + 1, (lwS wd lin abo m (b2N abo wd X bk + 1) bk).2.2.1, (lwS wd lin abo m (b2N abo wd X bk + 1) bk).2.2.2))
      else if fst (fun i => lin i == !bk) wd X + 3 < b1N abo wd X bk ∨ b1N abo wd X bk + 3 < fst (fun i => lin i == !bk) wd X then
        ((wl 9 ++ runB (fst (fun i => lin i == !bk) wd X - (X - 1)) bk ++ runB (a2N lin wd (fst (fun i => lin i == !bk) wd X) bk - fst (fun i => lin i == !bk) wd X) (!bk)) ++ (lwS wd lin abo m (a2N lin wd (fst (fun i => lin i == !bk) wd X) bk + 1) bk).1,
          ((lwS wd lin abo m (a2N lin wd (fst (fun i => lin i == !bk) wd X) bk + 1) bk).2.1, (lwS wd lin abo m (a2N lin wd (fst (fun i => lin i == !bk) wd X) bk + 1) bk).2.2.1, (lwS wd lin abo m (a2N lin wd (fst (fun i => lin i == !bk) wd X) bk + 1) bk).2.2.2 + 1))
      else
        (wl (moN (5 + fst (fun i => lin i == !bk) wd X - b1N abo wd X bk)) ++ (lwS wd lin abo m (fst (fun i => lin i == !bk) wd X + 1) (!bk)).1, ((lwS wd lin abo m (fst (fun i => lin i == !bk) wd X + 1) (!bk)).2.1, (lwS wd lin abo m (fst (fun i => lin i == !bk) wd X + 1) (!bk)).2.2.1 + 1, (lwS wd lin abo m (fst (fun i => lin i == !bk) wd X + 1) (!bk)).2.2.2))
theorem b1N_in {of : Nat → Bool} {wd X : Nat} (hX : X ≤ wd) (bk : Bool) : X ≤ b1N of wd X bk ∧ b1N of wd X bk ≤ wd := by
  unfold b1N
  rw [show min X wd = X by omega]
  exact ⟨(fst_sp (chg of (!bk)) hX).1, (fst_sp (chg of (!bk)) hX).2.1⟩
theorem b2N_in {of : Nat → Bool} {wd X : Nat} (hX : X ≤ wd) (bk : Bool) : b1N of wd X bk ≤ b2N of wd X bk ∧ b2N of wd X bk ≤ wd := by
  have h := b1N_in (of := of) hX bk
  unfold b2N
  by_cases h1 : b1N of wd X bk = wd
  · rw [if_pos h1]; omega
  · rw [if_neg h1]
    have := fst_sp (fun i => of i == bk) (show b1N of wd X bk + 1 ≤ wd by omega)
    omega
theorem a2N_in {lin : Nat → Bool} {wd a1 : Nat} (h : a1 ≤ wd) (bk : Bool) : a1 ≤ a2N lin wd a1 bk ∧ a2N lin wd a1 bk ≤ wd ∧ (a1 < wd → a1 < a2N lin wd a1 bk) := by
  unfold a2N
  by_cases h1 : a1 = wd
  · rw [if_pos h1]; omega
  · rw [if_neg h1]
    have := fst_sp (fun i => lin i == bk) (show a1 + 1 ≤ wd by omega)
    omega
theorem c3_0 (zw : Int32 × Int32 × Int32) : (zw.1 + nI 0, zw.2.1 + nI 0, zw.2.2 + nI 0) = zw := by
  rw [show nI 0 = 0 from rfl]; simp
theorem c3_a (x : Int32) (k : Nat) : x + 1 + nI k = x + nI (k + 1) := by
  rw [Int32.add_assoc, Int32.add_comm 1, nI_1]
theorem a_of {a : Int32} {X : Nat} (h : a + 1 = nI X) (hX : X ≤ 10001) : a.toInt = (X : Int) - 1 := by
  have hb := ti_b a
  have h9 : (a + 1).toInt = X := by rw [h, nI_toInt (by omega)]
  rcases Int.lt_or_le (a.toInt + 1) 2147483648 with h8 | h8
  · rw [ti_add (by rw [ti_1]; omega) (by rw [ti_1]; omega), ti_1] at h9; omega
  · have : a = 2147483647 := Int32.toInt_inj.mp (by rw [show (2147483647 : Int32).toInt = 2147483647 from rfl]; omega)
    rw [this, show ((2147483647 : Int32) + 1).toInt = -2147483648 from by decide] at h9; omega
theorem mlw {wd : Nat} (hw : wd ≤ 10000) (lin abo : Nat → Bool) (nx : Int32) (w3 : Int32 × Int32 × Int32) (nex : Nat → Bool) : ∀ (m f1 f2 X n : Nat) (zw : Int32 × Int32 × Int32) (g : Nat → Bool) (a : Int32) (bk : Bool), m = wd + 1 - X → m < f1 → m < f2 → X ≤ wd + 1 → (X ≤ wd → n ≤ 12 * X + 10) → a + 1 = nI X →
    l_Model_lineWords_24 wd lin abo nx w3 nex f1 (nI n) zw g a bk = (nI (n + (lwS wd lin abo f2 X bk).1.length), (zw.1 + nI (lwS wd lin abo f2 X bk).2.1, zw.2.1 + nI (lwS wd lin abo f2 X bk).2.2.1, zw.2.2 + nI (lwS wd lin abo f2 X bk).2.2.2), app g n (lwS wd lin abo f2 X bk).1) := by
  intro m
  induction m using Nat.strongRecOn with
  | ind m ih =>
    intro f1 f2 X n zw g a bk hm h1 h2 hX hn ha
    obtain ⟨e1, rfl⟩ : ∃ e1, f1 = e1 + 1 := ⟨f1 - 1, by omega⟩
    obtain ⟨e2, rfl⟩ : ∃ e2, f2 = e2 + 1 := ⟨f2 - 1, by omega⟩
    have hai := a_of ha (by omega)
    simp only [l_Model_lineWords_24, lwS]
    by_cases hend : wd < X
    · rw [if_pos hend, if_pos (by rw [ti_le, nI_toInt (by omega), hai]; omega)]
      dsimp only
      rw [List.length_nil, Nat.add_zero, c3_0, app_nil]
    · rw [if_neg hend, if_neg (by rw [ti_le, nI_toInt (by omega), hai]; omega)]
      have hXw : X ≤ wd := by omega
      have hn' := hn hXw
      obtain ⟨A1, hA1⟩ : ∃ A1, A1 = fst (fun i => lin i == !bk) wd X := ⟨_, rfl⟩
      obtain ⟨hA1a, hA1b, -, -⟩ := fst_sp (fun i => lin i == !bk) hXw
      obtain ⟨hB1a, hB1b⟩ := b1N_in (of := abo) hXw bk
      obtain ⟨hB2a, hB2b⟩ := b2N_in (of := abo) hXw bk
      have hb1e : b1N abo wd X bk = fst (chg abo (!bk)) wd X := by unfold b1N; rw [show min X wd = X by omega]
      have hb2e : b2N abo wd X bk = if b1N abo wd X bk = wd then wd else fst (fun i => abo i == bk) wd (b1N abo wd X bk + 1) := rfl
      obtain ⟨B1, hB1⟩ : ∃ B1, B1 = b1N abo wd X bk := ⟨_, rfl⟩
      obtain ⟨B2, hB2⟩ : ∃ B2, B2 = b2N abo wd X bk := ⟨_, rfl⟩
      rw [← hA1] at hA1a hA1b
      rw [← hB1] at hB1a hB1b hB2a hb1e hb2e
      rw [← hB2] at hB2a hB2b hb2e
      rw [← hA1, ← hB1, ← hB2]
      -- the reference's four places
      have hroad : ∀ rec, (if (bI bk) = 0 then (let r_34 := f_Model_dotAfter lin wd a true; j_Model_lineWords_51 wd lin abo nx w3 nex rec (nI n) zw g a bk r_34) else (let r_33 := f_Model_dotAfter lin wd a false; j_Model_lineWords_51 wd lin abo nx w3 nex rec (nI n) zw g a bk r_33))
          = j_Model_lineWords_100 wd lin abo nx w3 nex rec (nI n) zw g a bk (nI A1) (nI B1) (nI B2) := by
        intro rec
        have q1 : ∀ A, j_Model_lineWords_71 wd lin abo nx w3 nex rec (nI n) zw g a bk A (nI B1) = j_Model_lineWords_100 wd lin abo nx w3 nex rec (nI n) zw g a bk A (nI B1) (nI B2) := by
          intro A
          unfold j_Model_lineWords_71
          by_cases h9 : B1 = wd
          · rw [if_pos (by rw [h9]), hb2e, if_pos h9]
          · rw [if_neg (fun e => h9 ((nI_eq (by omega) (by omega)).mp e)), md_f abo hw (x := B1 + 1) (nI_1 B1) (by omega) bk, hb2e, if_neg h9]
        cases bk with
        | false =>
          rw [if_pos (by decide), md_f lin hw ha hXw true]
          dsimp only
          unfold j_Model_lineWords_51
          rw [if_pos (by decide), mc_f abo hw ha hXw true]
          dsimp only
          rw [hA1, show (!false) = true from rfl, ← show (!false) = true from rfl, ← hb1e]
          exact q1 _
        | true =>
          rw [if_neg (by decide), md_f lin hw ha hXw false]
          dsimp only
          unfold j_Model_lineWords_51
          rw [if_neg (by decide), mc_f abo hw ha hXw false]
          dsimp only
          rw [hA1, ← show (!true) = false from rfl, ← hb1e]
          exact q1 _
      rw [hroad]
      have hdi : (nI A1 - nI B1).toInt = (A1 : Int) - B1 := pk_sub_toInt (by omega) (by omega)
      unfold j_Model_lineWords_100
      dsimp only
      by_cases hp : B2 < A1
      · -- pass
        rw [if_pos hp, if_neg (nI_ge hp (by omega))]
        have hmo := mo_w 0 (by decide)
        have e0 : tMo (0 : Int32).toNatClampNeg = nI 17 := by decide
        rw [e0, mw_a (W := 17) (by decide) (by decide) (by omega) g]
        dsimp only
        have hlen : (wl 17).length = 4 := by decide
        rw [ih (wd + 1 - (B2 + 1)) (by omega) e1 e2 (B2 + 1) (n + (wl 17).length) _ _ (nI B2) bk rfl (by omega) (by omega) (by omega) (fun _ => by rw [hlen]; omega) (nI_1 B2)]
        rw [app_app, List.length_append, Nat.add_assoc, c3_a]
      · rw [if_neg hp, if_pos (nI_le (by omega) (by omega))]
        have hj189 : ∀ rec, j_Model_lineWords_189 wd lin abo nx w3 nex rec (nI n) zw g a bk (nI A1) = j_Model_lineWords_216 wd lin abo nx w3 nex rec (nI n) zw g a bk (nI A1) (nI (a2N lin wd A1 bk)) := by
          intro rec
          unfold j_Model_lineWords_189 a2N
          by_cases h9 : A1 = wd
          · rw [if_pos (by rw [h9]), if_pos h9]
          · rw [if_neg (fun e => h9 ((nI_eq (by omega) (by omega)).mp e)), if_neg h9, md_f lin hw (x := A1 + 1) (nI_1 A1) (by omega) bk]
        obtain ⟨hA2a, hA2b, hA2c⟩ := a2N_in (lin := lin) hA1b bk
        obtain ⟨A2, hA2⟩ : ∃ A2, A2 = a2N lin wd A1 bk := ⟨_, rfl⟩
        rw [← hA2] at hA2a hA2b hA2c hj189 ⊢
        have hacross : ∀ rec, (∀ n' g' zw', (A2 + 1 ≤ wd → n' ≤ 12 * (A2 + 1) + 10) → rec (nI n') zw' g' (nI A2) bk = (nI (n' + (lwS wd lin abo e2 (A2 + 1) bk).1.length), (zw'.1 + nI (lwS wd lin abo e2 (A2 + 1) bk).2.1, zw'.2.1 + nI (lwS wd lin abo e2 (A2 + 1) bk).2.2.1, zw'.2.2 + nI (lwS wd lin abo e2 (A2 + 1) bk).2.2.2), app g' n' (lwS wd lin abo e2 (A2 + 1) bk).1)) →
            j_Model_lineWords_189 wd lin abo nx w3 nex rec (nI n) zw g a bk (nI A1) = (nI (n + ((wl 9 ++ runB (A1 - (X - 1)) bk ++ runB (A2 - A1) (!bk)) ++ (lwS wd lin abo e2 (A2 + 1) bk).1).length), (zw.1 + nI (lwS wd lin abo e2 (A2 + 1) bk).2.1, zw.2.1 + nI (lwS wd lin abo e2 (A2 + 1) bk).2.2.1, zw.2.2 + nI ((lwS wd lin abo e2 (A2 + 1) bk).2.2.2 + 1)), app g n ((wl 9 ++ runB (A1 - (X - 1)) bk ++ runB (A2 - A1) (!bk)) ++ (lwS wd lin abo e2 (A2 + 1) bk).1)) := by
          intro rec hrec
          rw [hj189]
          unfold j_Model_lineWords_216
          have e1' : tMo (1 : Int32).toNatClampNeg = nI 9 := by decide
          have hlen : (wl 9).length = 3 := by decide
          rw [e1', mw_a (W := 9) (by decide) (by decide) (by omega) g]
          dsimp only
          have hr1 : (if 0 ≤ a then nI A1 - a else nI A1 - 0) = nI (A1 - (X - 1)) := by
            by_cases h0 : X = 0
            · rw [if_neg (by rw [ti_le, hai, ti_0]; omega), h0]
              show nI A1 - nI 0 = _
              rw [pk_sub (by omega)]
            · rw [if_pos (by rw [ti_le, hai, ti_0]; omega)]
              have : a = nI (X - 1) := nI_of_toInt (by rw [hai]; omega)
              rw [this, pk_sub (by omega)]
          obtain ⟨L1a, L1b, L1c⟩ := runB_len _ (A1 - (X - 1)) bk rfl
          obtain ⟨L2a, L2b, L2c⟩ := runB_len _ (A2 - A1) (!bk) rfl
          have hR1 : f_Model_run (nI (n + (wl 9).length)) (app g n (wl 9)) (nI (A1 - (X - 1))) bk = (nI (n + (wl 9).length + (runB (A1 - (X - 1)) bk).length), app (app g n (wl 9)) (n + (wl 9).length) (runB (A1 - (X - 1)) bk)) := mr_f (by omega) (by omega) _ _
          have hA2s : nI A2 - nI A1 = nI (A2 - A1) := pk_sub hA2a
          have hR2 : f_Model_run (nI (n + (wl 9).length + (runB (A1 - (X - 1)) bk).length)) (app (app g n (wl 9)) (n + (wl 9).length) (runB (A1 - (X - 1)) bk)) (nI (A2 - A1)) (!bk) = (nI (n + (wl 9).length + (runB (A1 - (X - 1)) bk).length + (runB (A2 - A1) (!bk)).length), app (app (app g n (wl 9)) (n + (wl 9).length) (runB (A1 - (X - 1)) bk)) (n + (wl 9).length + (runB (A1 - (X - 1)) bk).length) (runB (A2 - A1) (!bk))) := mr_f (by omega) (by omega) _ _
          have hfin : rec (nI (n + (wl 9).length + (runB (A1 - (X - 1)) bk).length + (runB (A2 - A1) (!bk)).length)) (zw.1, zw.2.1, zw.2.2 + 1) (app (app (app g n (wl 9)) (n + (wl 9).length) (runB (A1 - (X - 1)) bk)) (n + (wl 9).length + (runB (A1 - (X - 1)) bk).length) (runB (A2 - A1) (!bk))) (nI A2) bk = (nI (n + ((wl 9 ++ runB (A1 - (X - 1)) bk ++ runB (A2 - A1) (!bk)) ++ (lwS wd lin abo e2 (A2 + 1) bk).1).length), (zw.1 + nI (lwS wd lin abo e2 (A2 + 1) bk).2.1, zw.2.1 + nI (lwS wd lin abo e2 (A2 + 1) bk).2.2.1, zw.2.2 + nI ((lwS wd lin abo e2 (A2 + 1) bk).2.2.2 + 1)), app g n ((wl 9 ++ runB (A1 - (X - 1)) bk ++ runB (A2 - A1) (!bk)) ++ (lwS wd lin abo e2 (A2 + 1) bk).1)) := by
            rw [hrec _ _ _ (fun hlt => by omega)]
            have eL : n + (wl 9).length + (runB (A1 - (X - 1)) bk).length + (runB (A2 - A1) (!bk)).length + (lwS wd lin abo e2 (A2 + 1) bk).1.length = n + ((wl 9 ++ runB (A1 - (X - 1)) bk ++ runB (A2 - A1) (!bk)) ++ (lwS wd lin abo e2 (A2 + 1) bk).1).length := by simp only [List.length_append]; omega
            have eG : app (app (app (app g n (wl 9)) (n + (wl 9).length) (runB (A1 - (X - 1)) bk)) (n + (wl 9).length + (runB (A1 - (X - 1)) bk).length) (runB (A2 - A1) (!bk))) (n + (wl 9).length + (runB (A1 - (X - 1)) bk).length + (runB (A2 - A1) (!bk)).length) (lwS wd lin abo e2 (A2 + 1) bk).1 = app g n ((wl 9 ++ runB (A1 - (X - 1)) bk ++ runB (A2 - A1) (!bk)) ++ (lwS wd lin abo e2 (A2 + 1) bk).1) := by
              rw [app_app g n, Nat.add_assoc n, ← List.length_append, app_app g n, Nat.add_assoc n, ← List.length_append, app_app g n]
            rw [eL, eG, c3_a]
          by_cases h0 : 0 ≤ a
          · rw [if_pos h0] at hr1
            rw [if_pos h0, hr1, hR1]
            dsimp only
            cases bk with
            | false => rw [if_pos (by decide), hA2s]; rw [show (!false) = true from rfl] at hR2 hfin ⊢; rw [hR2]; exact hfin
            | true => rw [if_neg (by decide), hA2s]; rw [show (!true) = false from rfl] at hR2 hfin ⊢; rw [hR2]; exact hfin
          · rw [if_neg h0] at hr1
            rw [if_neg h0, hr1, hR1]
            dsimp only
            cases bk with
            | false => rw [if_pos (by decide), hA2s]; rw [show (!false) = true from rfl] at hR2 hfin ⊢; rw [hR2]; exact hfin
            | true => rw [if_neg (by decide), hA2s]; rw [show (!true) = false from rfl] at hR2 hfin ⊢; rw [hR2]; exact hfin
        have hrecA : ∀ n' g' zw', (A2 + 1 ≤ wd → n' ≤ 12 * (A2 + 1) + 10) → l_Model_lineWords_24 wd lin abo nx w3 nex e1 (nI n') zw' g' (nI A2) bk = (nI (n' + (lwS wd lin abo e2 (A2 + 1) bk).1.length), (zw'.1 + nI (lwS wd lin abo e2 (A2 + 1) bk).2.1, zw'.2.1 + nI (lwS wd lin abo e2 (A2 + 1) bk).2.2.1, zw'.2.2 + nI (lwS wd lin abo e2 (A2 + 1) bk).2.2.2), app g' n' (lwS wd lin abo e2 (A2 + 1) bk).1) :=
          fun n' g' zw' hb => ih (wd + 1 - (A2 + 1)) (by omega) e1 e2 (A2 + 1) n' zw' g' (nI A2) bk rfl (by omega) (by omega) (by omega) hb (nI_1 A2)
        by_cases hlo : A1 + 3 < B1
        · rw [if_pos (by rw [ti_lt, hdi, show (-3 : Int32).toInt = -3 from rfl]; omega), if_pos (Or.inl hlo)]
          exact hacross _ hrecA
        · rw [if_neg (by rw [ti_lt, hdi, show (-3 : Int32).toInt = -3 from rfl]; omega)]
          by_cases hhi : B1 + 3 < A1
          · rw [if_pos (by rw [ti_lt, hdi, show (3 : Int32).toInt = 3 from rfl]; omega), if_pos (Or.inr hhi)]
            exact hacross _ hrecA
          · rw [if_neg (show ¬ (3 : Int32) < nI A1 - nI B1 by rw [ti_lt, hdi, show (3 : Int32).toInt = 3 from rfl]; omega), if_neg (show ¬ (A1 + 3 < B1 ∨ B1 + 3 < A1) by omega)]
            have e5 : (5 : Int32) + (nI A1 - nI B1) = nI (5 + A1 - B1) := nI_of_toInt (by
              rw [ti_add (by rw [hdi, show (5 : Int32).toInt = 5 from rfl]; omega) (by rw [hdi, show (5 : Int32).toInt = 5 from rfl]; omega), hdi, show (5 : Int32).toInt = 5 from rfl]; omega)
            obtain ⟨w1, w2, w3', w4⟩ := mo_w (5 + A1 - B1) (by omega)
            have hl := w4 (by omega)
            rw [e5, nI_clamp (by omega), w1, mw_a w2 w3' (by omega) g]
            have hlen : (wl (moN (5 + A1 - B1))).length ≤ 7 := by rw [wl_len]; exact hl
            cases bk with
            | false =>
              rw [if_pos (by decide)]
              dsimp only
              rw [ih (wd + 1 - (A1 + 1)) (by omega) e1 e2 (A1 + 1) (n + (wl (moN (5 + A1 - B1))).length) _ _ (nI A1) true rfl (by omega) (by omega) (by omega) (fun _ => by omega) (nI_1 A1)]
              rw [app_app, List.length_append, Nat.add_assoc, c3_a]
              rfl
            | true =>
              rw [if_neg (by decide)]
              dsimp only
              rw [ih (wd + 1 - (A1 + 1)) (by omega) e1 e2 (A1 + 1) (n + (wl (moN (5 + A1 - B1))).length) _ _ (nI A1) false rfl (by omega) (by omega) (by omega) (fun _ => by omega) (nI_1 A1)]
              rw [app_app, List.length_append, Nat.add_assoc, c3_a]
              rfl
/-! the class's words: what stands behind the first c0 bits -/
def oK (f0 : Nat → Int64) (c0 : Nat) (zo : (Nat → Int64) × Int32) (zf : Bool) (bits : List Bool) : Prop :=
  ∃ (f' : Nat → Int64) (c' : Nat), zo = (f', nI c') ∧ c0 ≤ c' ∧ c' ≤ 524288 ∧ (∀ i, c' ≤ i → i < 524288 → gb f' i = false) ∧ (∀ i, i < c0 → gb f' i = gb f0 i) ∧ zf = decide (c0 + bits.length ≤ 524288) ∧
    (zf = true → c' = c0 + bits.length ∧ ∀ i, c0 ≤ i → i < c' → gb f' i = bits.getD (i - c0) false)
theorem oK_more {f0 : Nat → Int64} {c0 : Nat} {zo : (Nat → Int64) × Int32} {bits more : List Bool} (h : oK f0 c0 zo false bits) : oK f0 c0 zo false (bits ++ more) := by
  obtain ⟨f', c', e, a, b, c, d, g, -⟩ := h
  refine ⟨f', c', e, a, b, c, d, ?_, fun h => by cases h⟩
  have : ¬ c0 + bits.length ≤ 524288 := of_decide_eq_false g.symm
  rw [decide_eq_false (by rw [List.length_append]; omega)]
theorem wl_getD {W i : Nat} (h : i < W.log2) : (wl W).getD i false = W.testBit (W.log2 - 1 - i) := by
  unfold wl
  rw [List.getD_eq_getElem?_getD, List.getElem?_map, List.getElem?_range h]
  rfl
theorem getD_app {α : Type} (l k : List α) (d : α) (i : Nat) : (l ++ k).getD i d = if i < l.length then l.getD i d else k.getD (i - l.length) d := by
  by_cases h : i < l.length
  · rw [if_pos h, List.getD_eq_getElem?_getD, List.getD_eq_getElem?_getD, List.getElem?_append_left h]
  · rw [if_neg h, List.getD_eq_getElem?_getD, List.getD_eq_getElem?_getD, List.getElem?_append_right (by omega)]
theorem bI_if (b : Bool) {α : Type} (x y : α) : (if bI b = 0 then x else y) = if b = true then y else x := by cases b <;> rfl
theorem oK_word {f0 : Nat → Int64} {c0 : Nat} {zo : (Nat → Int64) × Int32} {zf : Bool} {bits : List Bool} {W : Nat} (h1 : 2 ≤ W) (h2 : W < 16384) (h : oK f0 c0 zo zf bits) : oK f0 c0 (f_Coder_addWord zo zf (nI W)).1 (f_Coder_addWord zo zf (nI W)).2 (bits ++ wl W) := by
  obtain ⟨f', c', rfl, a, b, c, d, g, k⟩ := h
  obtain ⟨L, hL, q1, q2⟩ := log2_le h2 (by omega)
  have hL1 : 1 ≤ L := by
    rcases Nat.eq_zero_or_pos L with e | e
    · subst e; omega
    · exact e
  have hlog : W.log2 = L := log2_of q1 q2
  unfold f_Coder_addWord
  dsimp only
  rw [len_f (by omega) (by omega), hlog]
  have hlen : (wl W).length = L := by rw [wl_len, hlog]
  rw [hlog.symm]
  by_cases hfit : c' + L ≤ 524288
  · obtain ⟨f1, e1, e2⟩ := addYes (f := f') (c := c') (n := W.log2) (by omega) (by omega) c ((nI W).toInt64) (by omega)
    rw [e1, if_neg (show ¬ (1 : Int32) = 0 by decide)]
    have hcl : ∀ i, c' + L ≤ i → i < 524288 → gb f1 i = false := fun i p q => by rw [e2 i q, if_neg (by omega)]; exact c i (by omega) q
    have hpre : ∀ i, i < c0 → gb f1 i = gb f0 i := fun i p => by rw [e2 i (by omega), if_neg (by omega)]; exact d i p
    cases zf with
    | false =>
      rw [if_pos (by decide)]
      refine ⟨f1, c' + L, by rw [hlog], by omega, hfit, hcl, hpre, ?_, fun h => by cases h⟩
      have : ¬ c0 + bits.length ≤ 524288 := of_decide_eq_false g.symm
      rw [decide_eq_false (by rw [List.length_append]; omega)]
    | true =>
      rw [if_neg (by decide)]
      obtain ⟨k1, k2⟩ := k rfl
      refine ⟨f1, c' + L, by rw [hlog], by omega, hfit, hcl, hpre, ?_, fun _ => ⟨by rw [List.length_append, hlen]; omega, fun i p q => ?_⟩⟩
      · rw [decide_eq_true (by rw [List.length_append, hlen]; omega)]
      · rw [e2 i (by omega), getD_app]
        by_cases hin : c' ≤ i
        · rw [if_pos (by omega), if_neg (by omega), nI_tb (by omega), wl_getD (by omega)]
          congr 1; omega
        · rw [if_neg (by omega), if_pos (by omega)]; exact k2 i p (by omega)
  · rw [addNo (c := c') (n := W.log2) b (by omega) _ (Or.inr (by omega)), if_pos (show (0 : Int32) = 0 from rfl)]
    refine ⟨f', c', rfl, a, b, c, d, ?_, fun h => by cases h⟩
    rw [decide_eq_false]
    rw [List.length_append, hlen]
    cases zf with
    | true => have := (k rfl).1; omega
    | false => have : ¬ c0 + bits.length ≤ 524288 := of_decide_eq_false g.symm; omega
theorem rst2 : ∀ r, r < 64 → f_Words_rest (nI r) false = nI (rstN r false) ∧ f_Words_rest (nI r) true = nI (rstN r true) ∧ 2 ≤ rstN r false ∧ 2 ≤ rstN r true ∧ rstN r false < 16384 ∧ rstN r true < 16384 := by decide +kernel
theorem blk2a : ∀ k, k < 41 → 0 < k → f_Words_block (nI (64 * k)) false = nI (if k = 40 then 4127 else blkN k false) ∧ f_Words_block (nI (64 * k)) true = nI (if k = 40 then 4127 else blkN k true) ∧ 2 ≤ blkN k false ∧ 2 ≤ blkN k true ∧ blkN k false < 16384 ∧ blkN k true < 16384 := by decide +kernel
theorem oK_run {f0 : Nat → Int64} {c0 : Nat} (ou : (Nat → Int64) × Int32) (ft : Bool) (x : Int32) (bk : Bool) : ∀ (fuel n : Nat) (zo : (Nat → Int64) × Int32) (zf : Bool) (bits : List Bool), n < fuel → n ≤ 10000 → oK f0 c0 zo zf bits →
    oK f0 c0 (l_Coder_addRun_2 ou ft x bk fuel zo zf (nI n)).1 (l_Coder_addRun_2 ou ft x bk fuel zo zf (nI n)).2 (bits ++ runB n bk) := by
  intro fuel
  induction fuel with
  | zero => intro n zo zf bits h; omega
  | succ fuel ih =>
    intro n zo zf bits hf hn h
    have er : nI n - nI n / 64 * 64 = nI (n % 64) := pk_rem (d := 64) (by omega) (by decide) (by decide)
    have hrest : f_Words_rest (nI (n % 64)) bk = nI (rstN (n % 64) bk) ∧ 2 ≤ rstN (n % 64) bk ∧ rstN (n % 64) bk < 16384 := by
      obtain ⟨q1, q2, q3, q4, q5, q6⟩ := rst2 (n % 64) (by omega)
      cases bk with
      | false => exact ⟨q1, q3, q5⟩
      | true => exact ⟨q2, q4, q6⟩
    simp only [l_Coder_addRun_2]
    by_cases h1 : n < 2560
    · rw [if_pos (show nI n < 2560 from nI_lt (b := 2560) h1 (by omega)), er, hrest.1, runB_lt h1]
      unfold tailB
      by_cases h2 : n < 64
      · rw [if_pos (show nI n < 64 from nI_lt (b := 64) h2 (by omega)), if_pos (show n / 64 = 0 by omega), List.nil_append]
        exact oK_word hrest.2.1 hrest.2.2 h
      · rw [if_neg (show ¬ nI n < 64 from nI_nlt (b := 64) (by omega) (by omega)), if_neg (show ¬ n / 64 = 0 by omega)]
        have hb : f_Words_block (nI n) bk = nI (blkN (n / 64) bk) ∧ 2 ≤ blkN (n / 64) bk ∧ blkN (n / 64) bk < 16384 := by
          have e : f_Words_block (nI n) bk = f_Words_block (nI (64 * (n / 64))) bk := by
            unfold f_Words_block
            have d1 : nI n / 64 = nI (n / 64) := pk_div (d := 64) (by omega) (by decide) (by decide)
            have d2 : nI (64 * (n / 64)) / 64 = nI (64 * (n / 64) / 64) := pk_div (d := 64) (by omega) (by decide) (by decide)
            rw [d1, d2, show 64 * (n / 64) / 64 = n / 64 by omega]
          obtain ⟨q1, q2, q3, q4, q5, q6⟩ := blk2a (n / 64) (by omega) (by omega)
          rw [if_neg (show ¬ n / 64 = 40 by omega)] at q1 q2
          rw [e]
          cases bk with
          | false => exact ⟨q1, q3, q5⟩
          | true => exact ⟨q2, q4, q6⟩
        rw [hb.1, ← List.append_assoc]
        have k1 := oK_word hb.2.1 hb.2.2 h
        have k2 := oK_word hrest.2.1 hrest.2.2 k1
        dsimp only
        exact k2
    · rw [if_neg (show ¬ nI n < 2560 from nI_nlt (b := 2560) (by omega) (by omega)), runB_ge (by omega), ← List.append_assoc]
      have hb : f_Words_block 2560 bk = nI 4127 := by cases bk <;> decide +kernel
      have es : nI n + (-2560) = nI (n - 2560) := nI_m (k := 2560) (by omega) (by decide)
      rw [hb, es]
      have k1 := oK_word (W := 4127) (by decide) (by decide) h
      exact ih (n - 2560) _ _ _ (by omega) (by omega) k1
theorem oK_runF {f0 : Nat → Int64} {c0 : Nat} {zo : (Nat → Int64) × Int32} {zf : Bool} {bits : List Bool} {n : Nat} (hn : n ≤ 10000) (bk : Bool) (h : oK f0 c0 zo zf bits) : oK f0 c0 (f_Coder_addRun zo zf (nI n) bk).1 (f_Coder_addRun zo zf (nI n) bk).2 (bits ++ runB n bk) := by
  unfold f_Coder_addRun
  exact oK_run zo zf (nI n) bk _ n zo zf bits (by rw [nI_toInt (by omega)]; omega) hn h
/-! the class codes a line -/
theorem st_w : ∀ j, j < 7 → f_Words_step (nI j) = nI (moN (j + 2)) ∧ 2 ≤ moN (j + 2) ∧ moN (j + 2) < 16384 := by decide +kernel
theorem st_7 : f_Words_step 7 = nI 17 := by decide +kernel
theorem st_8 : f_Words_step 8 = nI 9 := by decide +kernel
theorem mx_a {a : Int32} {X : Nat} (h : a + 1 = nI X) (hX : X ≤ 10001) : (if a < 0 then (0 : Int32) else a) = nI (X - 1) := by
  have hai := a_of h hX
  by_cases h0 : X = 0
  · rw [if_pos (by rw [ti_lt, hai, ti_0]; omega), h0]; rfl
  · rw [if_neg (by rw [ti_lt, hai, ti_0]; omega)]
    exact nI_of_toInt (by rw [hai]; omega)
theorem as_pass {wd : Nat} {ch : (Nat → Int32) × Int32} {f0 : Nat → Int64} {c0 : Nat} {zo : (Nat → Int64) × Int32} {zf : Bool} {bits : List Bool} {zc : Int32 × Int32 × Int32} {i0 a : Int32} {bk : Bool} {B1 B2 A1 A2 : Nat} (hA1 : A1 ≤ 10000) (hp : B2 < A1) (h : oK f0 c0 zo zf bits) :
    ∃ zo' zf', f_Coder_addStep wd ch zo zf zc (i0, a, bk, nI B1, nI B2) (nI A1) (nI A2) = (zo', zf', (zc.1 + 1, zc.2), f_Spot_move wd ch (i0, a, bk, nI B1, nI B2) (nI B2) bk) ∧ oK f0 c0 zo' zf' (bits ++ wl 17) := by
  have k1 := oK_word (W := 17) (by decide) (by decide) h
  refine ⟨_, _, ?_, k1⟩
  unfold f_Coder_addStep
  dsimp only
  rw [if_neg (nI_ge hp (by omega)), st_7]
theorem as_shift {wd : Nat} {ch : (Nat → Int32) × Int32} {f0 : Nat → Int64} {c0 : Nat} {zo : (Nat → Int64) × Int32} {zf : Bool} {bits : List Bool} {zc : Int32 × Int32 × Int32} {i0 a : Int32} {bk : Bool} {B1 B2 A1 A2 : Nat} (hA1 : A1 ≤ 10000) (hB1 : B1 ≤ 10000) (hB2 : B2 ≤ 10000) (hp : ¬ B2 < A1) (hs : ¬ (A1 + 3 < B1 ∨ B1 + 3 < A1)) (h : oK f0 c0 zo zf bits) :
    ∃ zo' zf', f_Coder_addStep wd ch zo zf zc (i0, a, bk, nI B1, nI B2) (nI A1) (nI A2) = (zo', zf', (zc.1, zc.2.1 + 1, zc.2.2), f_Spot_move wd ch (i0, a, bk, nI B1, nI B2) (nI A1) (!bk)) ∧ oK f0 c0 zo' zf' (bits ++ wl (moN (5 + A1 - B1))) := by
  have hdi : (nI A1 - nI B1).toInt = (A1 : Int) - B1 := pk_sub_toInt (by omega) (by omega)
  obtain ⟨w1, w2, w3⟩ := st_w (3 + A1 - B1) (by omega)
  rw [show 3 + A1 - B1 + 2 = 5 + A1 - B1 by omega] at w1 w2 w3
  have e3 : (3 : Int32) + (nI A1 - nI B1) = nI (3 + A1 - B1) := nI_of_toInt (by
    rw [ti_add (by rw [hdi, show (3 : Int32).toInt = 3 from rfl]; omega) (by rw [hdi, show (3 : Int32).toInt = 3 from rfl]; omega), hdi, show (3 : Int32).toInt = 3 from rfl]; omega)
  have k1 := oK_word w2 w3 h
  refine ⟨_, _, ?_, k1⟩
  unfold f_Coder_addStep
  dsimp only
  rw [if_pos (nI_le (by omega) (by omega)), if_neg (show ¬ nI A1 - nI B1 < (-3) by rw [ti_lt, hdi, show (-3 : Int32).toInt = -3 from rfl]; omega), if_neg (show ¬ (3 : Int32) < nI A1 - nI B1 by rw [ti_lt, hdi, show (3 : Int32).toInt = 3 from rfl]; omega), e3, w1]
  cases bk with
  | false => rw [if_pos (show bI false = 0 from rfl)]; rfl
  | true => rw [if_neg (show ¬ bI true = 0 by decide)]; rfl
theorem as_across {wd : Nat} {ch : (Nat → Int32) × Int32} {f0 : Nat → Int64} {c0 : Nat} {zo : (Nat → Int64) × Int32} {zf : Bool} {bits : List Bool} {zc : Int32 × Int32 × Int32} {i0 a : Int32} {bk : Bool} {B1 B2 A1 A2 X : Nat} (ha : a + 1 = nI X) (hX : X ≤ A1 + 1) (hA1 : A1 ≤ 10000) (hB1 : B1 ≤ 10000) (hB2 : B2 ≤ 10000) (hA2 : A1 ≤ A2) (hA2b : A2 ≤ 10000) (hp : ¬ B2 < A1) (hs : A1 + 3 < B1 ∨ B1 + 3 < A1) (h : oK f0 c0 zo zf bits) :
    ∃ zo' zf', f_Coder_addStep wd ch zo zf zc (i0, a, bk, nI B1, nI B2) (nI A1) (nI A2) = (zo', zf', (zc.1, zc.2.1, zc.2.2 + 1), f_Spot_move wd ch (i0, a, bk, nI B1, nI B2) (nI A2) bk) ∧ oK f0 c0 zo' zf' (bits ++ (wl 9 ++ runB (A1 - (X - 1)) bk ++ runB (A2 - A1) (!bk))) := by
  have hdi : (nI A1 - nI B1).toInt = (A1 : Int) - B1 := pk_sub_toInt (by omega) (by omega)
  have k1 := oK_word (W := 9) (by decide) (by decide) h
  have k2 := oK_runF (n := A1 - (X - 1)) (by omega) bk k1
  have k3 := oK_runF (n := A2 - A1) (by omega) (!bk) k2
  rw [List.append_assoc, List.append_assoc, ← List.append_assoc (wl 9)] at k3
  refine ⟨_, _, ?_, k3⟩
  unfold f_Coder_addStep
  dsimp only
  have e1 : nI A1 - nI (X - 1) = nI (A1 - (X - 1)) := pk_sub (by omega)
  have e2 : nI A2 - nI A1 = nI (A2 - A1) := pk_sub hA2
  rw [if_pos (nI_le (by omega) (by omega)), st_8, mx_a ha (by omega), e1, e2]
  rcases hs with hs | hs
  · rw [if_pos (show nI A1 - nI B1 < (-3) by rw [ti_lt, hdi, show (-3 : Int32).toInt = -3 from rfl]; omega)]
    cases bk with
    | false => rw [if_pos (show bI false = 0 from rfl)]; rfl
    | true => rw [if_neg (show ¬ bI true = 0 by decide)]; rfl
  · rw [if_neg (show ¬ nI A1 - nI B1 < (-3) by rw [ti_lt, hdi, show (-3 : Int32).toInt = -3 from rfl]; omega), if_pos (show (3 : Int32) < nI A1 - nI B1 by rw [ti_lt, hdi, show (3 : Int32).toInt = 3 from rfl]; omega)]
    cases bk with
    | false => rw [if_pos (show bI false = 0 from rfl)]; rfl
    | true => rw [if_neg (show ¬ bI true = 0 by decide)]; rfl
theorem lw_27 {wd : Nat} (hw : wd ≤ 10000) {ch zm : (Nat → Int32) × Int32} {lin abo : Nat → Bool} (hch : chR wd ch abo) (hzm : chR wd zm lin) (mpf : Nat → Int64) (ou : (Nat → Int64) × Int32) (ft : Bool) (ct : Int32 × Int32 × Int32) (sp : Int32 × Int32 × Bool × Int32 × Int32) (mch : (Nat → Int32) × Int32) {f0 : Nat → Int64} {c0 : Nat} :
    ∀ (m f1 f2 X kk j : Nat) (zo : (Nat → Int64) × Int32) (zf : Bool) (bits : List Bool) (zc : Int32 × Int32 × Int32) (a : Int32) (bk : Bool), m = wd + 1 - X → m < f1 → m < f2 → X ≤ wd + 1 → kk ≤ X → a + 1 = nI X → (X ≤ wd → (decide (0 < X) && lin (X - 1)) = bk) → j ≤ cN (isC lin) (min X wd) → oK f0 c0 zo zf bits →
    ∃ zo' zf' zc' zs', l_Coder_addSteps_27 wd ch mpf ou ft ct sp mch f1 zo zf zc (nI (cN (isC abo) (min X wd)), a, bk, nI (b1N abo wd X bk), nI (b2N abo wd X bk)) zm (nI j) (nI kk) = (zo', zf', zc', zs', zm) ∧ oK f0 c0 zo' zf' (bits ++ (lwS wd lin abo f2 X bk).1) ∧
      (zf' = true → zc' = (zc.1 + nI (lwS wd lin abo f2 X bk).2.1, zc.2.1 + nI (lwS wd lin abo f2 X bk).2.2.1, zc.2.2 + nI (lwS wd lin abo f2 X bk).2.2.2)) := by
  intro m
  induction m using Nat.strongRecOn with
  | ind m ih =>
    intro f1 f2 X kk j zo zf bits zc a bk hm h1 h2 hX hkk ha hcol hj h
    obtain ⟨e1, rfl⟩ : ∃ e1, f1 = e1 + 1 := ⟨f1 - 1, by omega⟩
    obtain ⟨e2, rfl⟩ : ∃ e2, f2 = e2 + 1 := ⟨f2 - 1, by omega⟩
    have hai := a_of ha (by omega)
    simp only [l_Coder_addSteps_27]
    by_cases hend : wd < X
    · have el : lwS wd lin abo (e2 + 1) X bk = ([], (0, 0, 0)) := by simp only [lwS]; rw [if_pos hend]
      rw [el, List.append_nil, if_pos (show nI wd ≤ a by rw [ti_le, nI_toInt (by omega), hai]; omega)]
      refine ⟨zo, zf, zc, (nI (cN (isC abo) (min X wd)), a, bk, nI (b1N abo wd X bk), nI (b2N abo wd X bk)), ?_, h, fun _ => (c3_0 zc).symm⟩
      split <;> rfl
    · have hXw : X ≤ wd := by omega
      rw [if_neg (nI_nlt (by omega) (by omega)), if_neg (show ¬ nI wd ≤ a by rw [ti_le, nI_toInt (by omega), hai]; omega)]
      cases zf with
      | false =>
        rw [if_pos (show bI false = 0 from rfl)]
        exact ⟨zo, false, zc, _, rfl, oK_more h, fun h => by cases h⟩
      | true =>
        rw [if_neg (show ¬ bI true = 0 by decide)]
        have hmin : min X wd = X := by omega
        have hcle := cN_le (isC lin) wd
        have hcm := cN_mono (isC lin) hXw
        have hnx := nx_c hXw (hcol hXw).symm
        obtain ⟨A1, hA1⟩ : ∃ A1, A1 = fst (fun i => lin i == !bk) wd X := ⟨_, rfl⟩
        obtain ⟨hA1a, hA1b, hA1c, hA1d⟩ := fst_sp (fun i => lin i == !bk) hXw
        obtain ⟨hB1a, hB1b⟩ := b1N_in (of := abo) hXw bk
        obtain ⟨hB2a, hB2b⟩ := b2N_in (of := abo) hXw bk
        have p1 : plN lin wd (cN (isC lin) X) = A1 := by rw [plN_nx hXw, ← hnx, hA1]
        have p2 : plN lin wd (cN (isC lin) X + 1) = a2N lin wd A1 bk := by
          unfold a2N
          rcases Nat.lt_or_ge A1 wd with hlt | hge
          · rw [if_neg (by omega)]
            have hisC : isC lin A1 = true := by
              have := (fst_sp (isC lin) hXw).2.2.2
              rw [← hnx, ← hA1] at this
              exact this hlt
            have hcA : cN (isC lin) A1 = cN (isC lin) X := by
              have := (fst_sp (isC lin) hXw)
              rw [← hnx, ← hA1] at this
              exact cN_eq _ this.1 this.2.2.1
            have hcA1 : cN (isC lin) (A1 + 1) = cN (isC lin) X + 1 := by rw [cN_s, hisC, hcA]; rfl
            have hlA : lin A1 = !bk := by
              have := hA1d (by rw [← hA1]; exact hlt)
              rw [← hA1] at this
              exact beq_iff_eq.mp this
            have hn2 := nx_c (of := lin) (wd := wd) (x := A1 + 1) (by omega) (c := !bk) (by rw [decide_eq_true (show 0 < A1 + 1 by omega), Nat.add_sub_cancel, hlA]; rfl)
            rw [Bool.not_not] at hn2
            rw [hn2, ← plN_nx (by omega), hcA1]
          · rw [if_pos (by omega)]
            apply plN_ge
            have : cN (isC lin) wd = cN (isC lin) X := by
              have := (fst_sp (isC lin) hXw)
              rw [← hnx, ← hA1] at this
              exact cN_eq _ hXw (fun i q1 q2 => this.2.2.1 i q1 (by omega))
            omega
        rw [fro_f hw hzm ha (by omega) hj, hmin, nI_1, nI_1, plO_f hw hzm (by omega), plO_f hw hzm (by omega), p1, p2]
        rw [← hA1] at hA1a hA1b hA1c hA1d
        obtain ⟨hA2a, hA2b, hA2c⟩ := a2N_in (lin := lin) hA1b bk
        have hca := cN_mono (isC abo) (show X ≤ min (b2N abo wd X bk + 1) wd by omega)
        by_cases hp : b2N abo wd X bk < A1
        · have el : lwS wd lin abo (e2 + 1) X bk = (wl 17 ++ (lwS wd lin abo e2 (b2N abo wd X bk + 1) bk).1, ((lwS wd lin abo e2 (b2N abo wd X bk + 1) bk).2.1 + 1, (lwS wd lin abo e2 (b2N abo wd X bk + 1) bk).2.2.1, (lwS wd lin abo e2 (b2N abo wd X bk + 1) bk).2.2.2)) := by
            simp only [lwS]; rw [if_neg hend, ← hA1, if_pos hp]
          obtain ⟨zo', zf', es, ok⟩ := as_pass (wd := wd) (ch := ch) (zc := zc) (i0 := nI (cN (isC abo) X)) (a := a) (bk := bk) (B1 := b1N abo wd X bk) (A2 := a2N lin wd A1 bk) (by omega) hp h
          rw [es]
          dsimp only
          rw [move_f hw hch (X := b2N abo wd X bk + 1) (nI_1 _) (by omega) hca]
          have hcol' : (decide (0 < b2N abo wd X bk + 1) && lin (b2N abo wd X bk + 1 - 1)) = bk := by
            rw [decide_eq_true (by omega), Nat.add_sub_cancel, Bool.true_and]
            have := hA1c (b2N abo wd X bk) (by omega) hp
            cases hl : lin (b2N abo wd X bk) <;> cases bk <;> rw [hl] at this <;> simp at this ⊢
          obtain ⟨zo2, zf2, zc2, zs2, r1, r2, r3⟩ := ih (wd + 1 - (b2N abo wd X bk + 1)) (by omega) e1 e2 (b2N abo wd X bk + 1) (kk + 1) (cN (isC lin) X) zo' zf' _ (zc.1 + 1, zc.2) (nI (b2N abo wd X bk)) bk rfl (by omega) (by omega) (by omega) (by omega) (nI_1 _) (fun _ => hcol') (cN_mono _ (by omega)) ok
          refine ⟨zo2, zf2, zc2, zs2, r1, ?_, fun hz => ?_⟩
          · rw [el, ← List.append_assoc]; exact r2
          · rw [r3 hz, el]
            dsimp only
            rw [c3_a]
        · by_cases hs : A1 + 3 < b1N abo wd X bk ∨ b1N abo wd X bk + 3 < A1
          · have el : lwS wd lin abo (e2 + 1) X bk = ((wl 9 ++ runB (A1 - (X - 1)) bk ++ runB (a2N lin wd A1 bk - A1) (!bk)) ++ (lwS wd lin abo e2 (a2N lin wd A1 bk + 1) bk).1, ((lwS wd lin abo e2 (a2N lin wd A1 bk + 1) bk).2.1, (lwS wd lin abo e2 (a2N lin wd A1 bk + 1) bk).2.2.1, (lwS wd lin abo e2 (a2N lin wd A1 bk + 1) bk).2.2.2 + 1)) := by
              simp only [lwS]; rw [if_neg hend, ← hA1, if_neg hp, if_pos hs]
            obtain ⟨zo', zf', es, ok⟩ := as_across (wd := wd) (ch := ch) (zc := zc) (i0 := nI (cN (isC abo) X)) (bk := bk) (B1 := b1N abo wd X bk) (B2 := b2N abo wd X bk) (A2 := a2N lin wd A1 bk) ha (by omega) (by omega) (by omega) (by omega) hA2a (by omega) hp hs h
            rw [es]
            dsimp only
            rw [move_f hw hch (X := a2N lin wd A1 bk + 1) (nI_1 _) (by omega) (cN_mono _ (by omega))]
            have hcol' : a2N lin wd A1 bk + 1 ≤ wd → (decide (0 < a2N lin wd A1 bk + 1) && lin (a2N lin wd A1 bk + 1 - 1)) = bk := by
              intro hlt
              rw [decide_eq_true (by omega), Nat.add_sub_cancel, Bool.true_and]
              have e9 : a2N lin wd A1 bk = fst (fun i => lin i == bk) wd (A1 + 1) := by unfold a2N; rw [if_neg (by omega)]
              have := (fst_sp (fun i => lin i == bk) (show A1 + 1 ≤ wd by omega)).2.2.2
              rw [← e9] at this
              exact beq_iff_eq.mp (this (by omega))
            obtain ⟨zo2, zf2, zc2, zs2, r1, r2, r3⟩ := ih (wd + 1 - (a2N lin wd A1 bk + 1)) (by omega) e1 e2 (a2N lin wd A1 bk + 1) (kk + 1) (cN (isC lin) X) zo' zf' _ (zc.1, zc.2.1, zc.2.2 + 1) (nI (a2N lin wd A1 bk)) bk rfl (by omega) (by omega) (by omega) (by omega) (nI_1 _) hcol' (cN_mono _ (by omega)) ok
            refine ⟨zo2, zf2, zc2, zs2, r1, ?_, fun hz => ?_⟩
            · rw [el, ← List.append_assoc]; exact r2
            · rw [r3 hz, el]
              dsimp only
              rw [c3_a]
          · have el : lwS wd lin abo (e2 + 1) X bk = (wl (moN (5 + A1 - b1N abo wd X bk)) ++ (lwS wd lin abo e2 (A1 + 1) (!bk)).1, ((lwS wd lin abo e2 (A1 + 1) (!bk)).2.1, (lwS wd lin abo e2 (A1 + 1) (!bk)).2.2.1 + 1, (lwS wd lin abo e2 (A1 + 1) (!bk)).2.2.2)) := by
              simp only [lwS]; rw [if_neg hend, ← hA1, if_neg hp, if_neg hs]
            obtain ⟨zo', zf', es, ok⟩ := as_shift (wd := wd) (ch := ch) (zc := zc) (i0 := nI (cN (isC abo) X)) (a := a) (bk := bk) (B1 := b1N abo wd X bk) (B2 := b2N abo wd X bk) (A1 := A1) (A2 := a2N lin wd A1 bk) (by omega) (by omega) (by omega) hp hs h
            rw [es]
            dsimp only
            rw [move_f hw hch (X := A1 + 1) (nI_1 _) (by omega) (cN_mono _ (by omega))]
            have hcol' : A1 + 1 ≤ wd → (decide (0 < A1 + 1) && lin (A1 + 1 - 1)) = !bk := by
              intro hlt
              rw [decide_eq_true (by omega), Nat.add_sub_cancel, Bool.true_and]
              exact beq_iff_eq.mp (hA1d (by omega))
            obtain ⟨zo2, zf2, zc2, zs2, r1, r2, r3⟩ := ih (wd + 1 - (A1 + 1)) (by omega) e1 e2 (A1 + 1) (kk + 1) (cN (isC lin) X) zo' zf' _ (zc.1, zc.2.1 + 1, zc.2.2) (nI A1) (!bk) rfl (by omega) (by omega) (by omega) (by omega) (nI_1 _) hcol' (cN_mono _ (by omega)) ok
            refine ⟨zo2, zf2, zc2, zs2, r1, ?_, fun hz => ?_⟩
            · rw [el, ← List.append_assoc]; exact r2
            · rw [r3 hz, el]
              dsimp only
              rw [c3_a]
/-! code, against the reference's -/
def cpR (g h : Nat → Bool) (a b : Nat) : Nat → Bool := fun j => if a ≤ j ∧ j < b then h j else g j
theorem mco_98 {wd : Nat} (hw : wd ≤ 10000) {cl : Bool} {th bt cd : Int32} {c3 : Int32 × Int32 × Int32} {nx : Int32} {w3 : Int32 × Int32 × Int32} {lin abo nex out : Nat → Bool} {b3 zcd : Int32} {zc3 : Int32 × Int32 × Int32} {znx : Int32} {zw3 : Int32 × Int32 × Int32} {znex zout : Nat → Bool} :
    ∀ (m fuel k : Nat) (gl ga : Nat → Bool), m = wd - k → m < fuel → k ≤ wd → l_Model_code_98 wd cl th bt cd c3 nx w3 lin abo nex out fuel gl ga b3 (nI k) zcd zc3 znx zw3 znex zout = (znx, (0, b3, zcd, zc3, znx, zw3, stR gl k wd false, cpR ga gl k wd, znex, zout)) := by
  intro m
  induction m with
  | zero =>
    intro fuel k gl ga hm hf hk
    obtain ⟨f, rfl⟩ : ∃ f, fuel = f + 1 := ⟨fuel - 1, by omega⟩
    simp only [l_Model_code_98]
    have e : cpR ga gl k wd = ga := by funext j; unfold cpR; rw [if_neg (by omega)]
    rw [if_pos (nI_le (by omega) (by omega)), stR_0 _ _ (by omega), e]
  | succ m ih =>
    intro fuel k gl ga hm hf hk
    obtain ⟨f, rfl⟩ : ∃ f, fuel = f + 1 := ⟨fuel - 1, by omega⟩
    simp only [l_Model_code_98]
    rw [if_neg (nI_ge (by omega) (by omega)), nI_clamp (by omega), nI_1, ih f (k + 1) _ _ (by omega) (by omega) (by omega), stR_s _ _ (by omega)]
    have e : cpR (uB ga k (gl k)) (uB gl k false) (k + 1) wd = cpR ga gl k wd := by
      funext j
      unfold cpR uB
      by_cases h1 : j = k
      · rw [if_neg (by omega), if_pos h1, if_pos (by omega), h1]
      · rw [if_neg h1, if_neg h1]
        by_cases h2 : k ≤ j ∧ j < wd
        · rw [if_pos (by omega), if_pos h2]
        · rw [if_neg (by omega), if_neg h2]
    rw [e]
/-- the coder's state against the reference's -/
def codR (wd : Nat) (ou : (Nat → Int64) × Int32) (pf : Nat → Int64) (ch : (Nat → Int32) × Int32) (mpf : Nat → Int64) (bt : Int32) (lin abo out : Nat → Bool) : Prop :=
  ∃ (f : Nat → Int64) (c : Nat), ou = (f, nI c) ∧ c ≤ 524288 ∧ bt = nI c ∧ rowR f c out ∧ linR wd mpf lin ∧ linR wd pf abo ∧ chR wd ch abo
theorem chR_white {wd : Nat} (f : Nat → Int32) {of : Nat → Bool} (h : ∀ i, i < wd → of i = false) : chR wd (f, 0) of := by
  have hc : ∀ i, i < wd → isC of i = false := by
    intro i hi
    unfold isC
    rw [h i hi]
    rcases Nat.eq_zero_or_pos i with h0 | h0
    · rw [decide_eq_false (by omega)]; rfl
    · rw [h (i - 1) (by omega)]; simp
  refine ⟨?_, fun x hx hcx => by rw [hc x hx] at hcx; cases hcx⟩
  rw [cN_eq (isC of) (Nat.zero_le wd) (fun i _ hi => hc i hi)]
  rfl
theorem chR_congr {wd : Nat} {ch : (Nat → Int32) × Int32} {of of' : Nat → Bool} (h : ∀ i, i < wd → of i = of' i) (hc : chR wd ch of) : chR wd ch of' := by
  have hi : ∀ x, x < wd → isC of x = isC of' x := by
    intro x hx
    unfold isC
    rw [h x hx]
    rcases Nat.eq_zero_or_pos x with h0 | h0
    · rw [decide_eq_false (by omega)]; rfl
    · rw [h (x - 1) (by omega)]
  refine ⟨by rw [hc.1, cN_congr hi], fun x hx hx2 => ?_⟩
  have := hc.2 x hx (by rw [hi x hx]; exact hx2)
  rw [cN_congr (q := isC of') (fun i h9 => hi i (by omega))] at this
  exact this
theorem linR_congr {wd : Nat} {pf : Nat → Int64} {of of' : Nat → Bool} (h : ∀ i, i < wd → of i = of' i) (hl : linR wd pf of) : linR wd pf of' := ⟨fun i hi => by rw [hl.1 i hi, h i hi], hl.2⟩
theorem lw_l {wd : Nat} (lin abo : Nat → Bool) : ∀ (m f2 X : Nat) (bk : Bool), m = wd + 1 - X → (lwS wd lin abo f2 X bk).1.length ≤ 12 * (wd + 1 - X) + 24 + (if X = 0 then 10 else 0) ∧ (wd < X → (lwS wd lin abo f2 X bk).1.length = 0) := by
  intro m
  induction m using Nat.strongRecOn with
  | ind m ih =>
    intro f2 X bk hm
    cases f2 with
    | zero => exact ⟨Nat.zero_le _, fun _ => rfl⟩
    | succ e2 =>
      simp only [lwS]
      by_cases hend : wd < X
      · rw [if_pos hend]; exact ⟨Nat.zero_le _, fun _ => rfl⟩
      · rw [if_neg hend]
        have hXw : X ≤ wd := by omega
        refine ⟨?_, fun h => absurd h hend⟩
        obtain ⟨A1, hA1⟩ : ∃ A1, A1 = fst (fun i => lin i == !bk) wd X := ⟨_, rfl⟩
        obtain ⟨hA1a, hA1b, -, -⟩ := fst_sp (fun i => lin i == !bk) hXw
        obtain ⟨hB1a, hB1b⟩ := b1N_in (of := abo) hXw bk
        obtain ⟨hB2a, hB2b⟩ := b2N_in (of := abo) hXw bk
        rw [← hA1] at hA1a hA1b ⊢
        by_cases hp : b2N abo wd X bk < A1
        · rw [if_pos hp, List.length_append, show (wl 17).length = 4 by decide]
          have := (ih (wd + 1 - (b2N abo wd X bk + 1)) (by omega) e2 (b2N abo wd X bk + 1) bk rfl).1
          rw [if_neg (by omega)] at this
          omega
        · rw [if_neg hp]
          obtain ⟨hA2a, hA2b, hA2c⟩ := a2N_in (lin := lin) hA1b bk
          by_cases hs : A1 + 3 < b1N abo wd X bk ∨ b1N abo wd X bk + 3 < A1
          · rw [if_pos hs]
            simp only [List.length_append]
            rw [show (wl 9).length = 3 by decide]
            obtain ⟨-, L1b, L1c⟩ := runB_len _ (A1 - (X - 1)) bk rfl
            obtain ⟨-, L2b, L2c⟩ := runB_len _ (a2N lin wd A1 bk - A1) (!bk) rfl
            obtain ⟨I1, I2⟩ := ih (wd + 1 - (a2N lin wd A1 bk + 1)) (by omega) e2 (a2N lin wd A1 bk + 1) bk rfl
            rw [if_neg (by omega)] at I1
            rcases Nat.eq_zero_or_pos (A1 - (X - 1)) with z1 | z1
            · have l1 := L1c z1
              have hX0 : X = 0 := by omega
              rw [if_pos hX0]
              rcases Nat.eq_zero_or_pos (a2N lin wd A1 bk - A1) with z2 | z2
              · have l2 := L2c z2
                have := I2 (by omega)
                omega
              · have l2 := L2b z2; omega
            · have l1 := L1b z1
              rcases Nat.eq_zero_or_pos (a2N lin wd A1 bk - A1) with z2 | z2
              · have l2 := L2c z2
                have := I2 (by omega)
                split <;> omega
              · have l2 := L2b z2
                split <;> omega
          · rw [if_neg hs, List.length_append, wl_len]
            obtain ⟨-, -, -, w4⟩ := mo_w (5 + A1 - b1N abo wd X bk) (by omega)
            have := w4 (by omega)
            have I1 := (ih (wd + 1 - (A1 + 1)) (by omega) e2 (A1 + 1) (!bk) rfl).1
            rw [if_neg (by omega)] at I1
            omega
theorem lw_len {wd : Nat} (hw : wd ≤ 10000) (lin abo : Nat → Bool) : (lwS wd lin abo (wd + 2) 0 false).1.length ≤ 130000 := by
  have := (lw_l (wd := wd) lin abo (wd + 1) (wd + 2) 0 false rfl).1
  rw [if_pos rfl] at this
  omega
/-- promise 3: code either is refused on both sides, and all is as it was, or answers alike -/
theorem code_R {wd : Nat} (hw : wd ≤ 10000) {ou : (Nat → Int64) × Int32} {ft : Bool} {ct : Int32 × Int32 × Int32} {sp : Int32 × Int32 × Bool × Int32 × Int32} {pf : Nat → Int64} {ch : (Nat → Int32) × Int32} {mpf : Nat → Int64} {mch : (Nat → Int32) × Int32} {mad aad : Nat × Nat × Nat} {ab : Nat} {cl : Bool} {li : Int32}
    {th bt nx : Int32} {w3 : Int32 × Int32 × Int32} {lin abo nex out : Nat → Bool} (h : codR wd ou pf ch mpf bt lin abo out) :
    ((f_Coder_addLine wd ou ft ct sp pf ch mpf mch mad aad ab cl li).1 = -1 ∧ (f_Model_code wd cl th bt li ct nx w3 lin abo nex out).2.1 = 1 ∧
      ∃ (f1 : Nat → Int64) (ft1 : Bool) (sp1 : Int32 × Int32 × Bool × Int32 × Int32) (mch1 : (Nat → Int32) × Int32) (ab1 : Nat) (nx1 : Int32) (w31 : Int32 × Int32 × Int32) (nex1 : Nat → Bool), (f_Coder_addLine wd ou ft ct sp pf ch mpf mch mad aad ab cl li).2 = ((f1, ou.2), ft1, ct, sp1, pf, ch, mpf, mch1, mad, aad, ab1, cl, li) ∧
        (f_Model_code wd cl th bt li ct nx w3 lin abo nex out).2 = (1, bt, li, ct, nx1, w31, lin, abo, nex1, out) ∧ codR wd (f1, ou.2) pf ch mpf bt lin abo out) ∨
    (∃ (N : Nat), N ≤ 130000 ∧ (f_Coder_addLine wd ou ft ct sp pf ch mpf mch mad aad ab cl li).1 = nI N ∧ (f_Model_code wd cl th bt li ct nx w3 lin abo nex out).1 = nI N ∧
      ∃ (ou1 : (Nat → Int64) × Int32) (ct1 : Int32 × Int32 × Int32) (sp1 : Int32 × Int32 × Bool × Int32 × Int32) (ch1 mch1 : (Nat → Int32) × Int32) (mpf1 : Nat → Int64) (ab1 : Nat) (bt1 nx1 : Int32) (w31 : Int32 × Int32 × Int32) (lin1 abo1 nex1 out1 : Nat → Bool), cl = false ∧ (f_Coder_addLine wd ou ft ct sp pf ch mpf mch mad aad ab cl li).2 = (ou1, true, ct1, sp1, mpf, ch1, mpf1, mch1, aad, mad, ab1, cl, li + 1) ∧
        (f_Model_code wd cl th bt li ct nx w3 lin abo nex out).2 = (0, bt1, li + 1, ct1, nx1, w31, lin1, abo1, nex1, out1) ∧ codR wd ou1 mpf ch1 mpf1 bt1 lin1 abo1 out1) := by
  obtain ⟨f, c, rfl, hc, rfl, hrow, hlm, hla, hca⟩ := h
  -- the reference's words
  have hm := mlw hw lin abo nx w3 nex (wd + 1) (((nI wd).toInt - Int32.toInt ((-1) : Int32)).toNat + 1) (wd + 2) 0 0 (0, 0, 0) nex (-1) false rfl (by rw [nI_toInt (by omega), ti_m1]; omega) (by omega) (by omega) (fun _ => by omega) (by decide)
  have hlwlen : (lwS wd lin abo (wd + 2) 0 false).1.length ≤ 130000 := lw_len hw lin abo
  have hlw : f_Model_lineWords wd lin abo nx w3 nex = (nI (lwS wd lin abo (wd + 2) 0 false).1.length, (nI (lwS wd lin abo (wd + 2) 0 false).2.1, nI (lwS wd lin abo (wd + 2) 0 false).2.2.1, nI (lwS wd lin abo (wd + 2) 0 false).2.2.2), app nex 0 (lwS wd lin abo (wd + 2) 0 false).1) := by
    unfold f_Model_lineWords
    rw [show (0 : Int32) = nI 0 from rfl]
    have hm' := hm
    rw [Nat.zero_add] at hm'
    rw [show ((0 : Int32), (0 : Int32), (0 : Int32)) = (nI 0, nI 0, nI 0) from rfl] at hm'
    rw [hm']
    dsimp only
    rw [nI_add, nI_add, nI_add, Nat.zero_add, Nat.zero_add, Nat.zero_add]
  obtain ⟨bits, hbits⟩ : ∃ bits, bits = (lwS wd lin abo (wd + 2) 0 false).1 := ⟨_, rfl⟩
  obtain ⟨cc, hcc⟩ : ∃ cc, cc = (lwS wd lin abo (wd + 2) 0 false).2 := ⟨_, rfl⟩
  rw [← hbits] at hlwlen
  rw [← hbits, ← hcc] at hlw
  cases cl with
  | true =>
    refine Or.inl ⟨?_, ?_, f, ft, sp, mch, ab, (f_Model_lineWords wd lin abo nx w3 nex).1, (f_Model_lineWords wd lin abo nx w3 nex).2.1, (f_Model_lineWords wd lin abo nx w3 nex).2.2, ?_, ?_, ⟨f, c, rfl, hc, rfl, hrow, hlm, hla, hca⟩⟩
    · unfold f_Coder_addLine; rw [if_neg (show ¬ bI true = 0 by decide)]
    · unfold f_Model_code; rw [if_neg (show ¬ bI true = 0 by decide)]
    · unfold f_Coder_addLine; rw [if_neg (show ¬ bI true = 0 by decide)]
    · unfold f_Model_code; rw [if_neg (show ¬ bI true = 0 by decide)]
  | false =>
    -- the class's words
    have hbeg : f_Spot_begin wd ch sp = (nI (cN (isC abo) (min 0 wd)), -1, false, nI (b1N abo wd 0 false), nI (b2N abo wd 0 false)) := by
      unfold f_Spot_begin
      exact move_f hw hca (X := 0) (i0 := 0) (to := -1) (by decide) (by omega) (Nat.zero_le _) sp.2 false
    have hfc := fc_R hw hlm mch
    have hok0 : oK f c (f, nI c) true [] := ⟨f, c, rfl, Nat.le_refl _, hc, hrow.clean, fun _ _ => rfl, by rw [List.length_nil, decide_eq_true (by omega)], fun _ => ⟨by simp, fun i p q => by omega⟩⟩
    obtain ⟨zo, zf, zc, zs, r1, r2, r3⟩ := lw_27 hw hca hfc mpf (f, nI c) ft ct sp mch (wd + 1) (((nI wd).toInt + 1 - Int32.toInt (0 : Int32)).toNat + 1) (wd + 2) 0 0 0 (f, nI c) true [] ct (-1) false rfl (by rw [nI_toInt (by omega), ti_0]; omega) (by omega) (by omega) (by omega) (by decide) (fun _ => rfl) (Nat.zero_le _) hok0
    have hsteps : f_Coder_addSteps wd ch mpf (f, nI c) ft ct sp mch = (zo, zf, zc, zs, f_Line_findChanges wd mpf mch) := by
      unfold f_Coder_addSteps
      dsimp only
      rw [hbeg]
      exact r1
    rw [List.nil_append, ← hbits] at r2
    rw [← hcc] at r3
    obtain ⟨f', c', rfl, q1, q2, q3, q4, q5, q6⟩ := r2
    by_cases hfit : c + bits.length ≤ 524288
    · rw [decide_eq_true hfit] at q5
      subst q5
      obtain ⟨k1, k2⟩ := q6 rfl
      subst k1
      refine Or.inr ⟨bits.length, hlwlen, ?_, ?_, (f', nI (c + bits.length)), zc, zs, f_Line_findChanges wd mpf mch, (f_Line_whiten wd pf ch).2, (f_Line_whiten wd pf ch).1, aad.1, nI (c + bits.length), nI bits.length, (nI cc.1, nI cc.2.1, nI cc.2.2), stR lin 0 wd false, cpR abo lin 0 wd, app nex 0 bits, (fun j => if c ≤ j ∧ j < c + bits.length then app nex 0 bits (j - c) else out j), rfl, ?_, ?_, ?_⟩
      · unfold f_Coder_addLine
        rw [if_pos (show bI false = 0 from rfl), hsteps]
        dsimp only
        rw [if_neg (show ¬ bI true = 0 by decide)]
        dsimp only
        rw [pk_sub (by omega), show c + bits.length - c = bits.length by omega]
      · unfold f_Model_code
        rw [if_pos (show bI false = 0 from rfl), hlw]
        dsimp only
        rw [nI_add, if_pos (show nI (c + bits.length) ≤ 524288 from nI_le (b := 524288) hfit (by omega)), mt_f _ _ (by omega) hc]
        dsimp only
        rw [nI_toInt (by omega), ti_0, show (0 : Int32) = nI 0 from rfl, mco_98 hw wd _ 0 lin abo rfl (by omega) (by omega)]
      · unfold f_Coder_addLine
        rw [if_pos (show bI false = 0 from rfl), hsteps]
        dsimp only
        rw [if_neg (show ¬ bI true = 0 by decide)]
      · unfold f_Model_code
        rw [if_pos (show bI false = 0 from rfl), hlw]
        dsimp only
        rw [nI_add, if_pos (show nI (c + bits.length) ≤ 524288 from nI_le (b := 524288) hfit (by omega)), mt_f _ _ (by omega) hc]
        dsimp only
        rw [nI_toInt (by omega), ti_0, show (0 : Int32) = nI 0 from rfl, mco_98 hw wd _ 0 lin abo rfl (by omega) (by omega), r3 rfl]
        rfl
      · refine ⟨f', c + bits.length, rfl, hfit, rfl, fun i hi => ?_, whiten_R hw pf ch lin, ?_, ?_⟩
        · show gb f' i = (decide (i < c + bits.length) && (if c ≤ i ∧ i < c + bits.length then app nex 0 bits (i - c) else out i))
          by_cases h1 : i < c
          · rw [q4 i h1, hrow i hi, if_neg (by omega), decide_eq_true h1, decide_eq_true (show i < c + bits.length by omega)]
          · by_cases h2 : i < c + bits.length
            · rw [k2 i (by omega) h2, if_pos (by omega), decide_eq_true h2]
              unfold app
              rw [if_pos (by omega), Nat.sub_zero]; simp
            · rw [q3 i (by omega) hi, decide_eq_false h2]; rfl
        · exact linR_congr (fun i hi => by unfold cpR; rw [if_pos (by omega)]) hlm
        · exact chR_congr (fun i hi => by unfold cpR; rw [if_pos (by omega)]) hfc
    · rw [decide_eq_false hfit] at q5
      subst q5
      obtain ⟨f1, g1, g2⟩ := cut_f (f := f') (c := c') (t := c) q2 q1 q3
      refine Or.inl ⟨?_, ?_, f1, false, zs, f_Line_findChanges wd mpf mch, aad.1, nI bits.length, (nI cc.1, nI cc.2.1, nI cc.2.2), app nex 0 bits, ?_, ?_, ⟨f1, c, rfl, hc, rfl, fun i hi => ?_, hlm, hla, hca⟩⟩
      · unfold f_Coder_addLine
        rw [if_pos (show bI false = 0 from rfl), hsteps]
        dsimp only
        rw [if_pos (show bI false = 0 from rfl)]
      · unfold f_Model_code
        rw [if_pos (show bI false = 0 from rfl), hlw]
        dsimp only
        rw [nI_add, if_neg (show ¬ nI (c + bits.length) ≤ 524288 from nI_ge (a := 524288) (by omega) (by omega))]
      · unfold f_Coder_addLine
        rw [if_pos (show bI false = 0 from rfl), hsteps]
        dsimp only
        rw [if_pos (show bI false = 0 from rfl), g1]
      · unfold f_Model_code
        rw [if_pos (show bI false = 0 from rfl), hlw]
        dsimp only
        rw [nI_add, if_neg (show ¬ nI (c + bits.length) ≤ 524288 from nI_ge (a := 524288) (by omega) (by omega))]
      · rw [g2 i hi]
        by_cases h1 : i < c
        · rw [q4 i h1, hrow i hi, decide_eq_true h1]; simp
        · rw [decide_eq_false h1]; simp
/-! close, give, turn against the reference's -/
theorem aw_1 (zo : (Nat → Int64) × Int32) (zf : Bool) (w : Int32) : (f_Coder_addWord zo zf w).1 = (f_Coder_addWord zo true w).1 := by
  unfold f_Coder_addWord
  dsimp only
  by_cases h : (f_Bits_add zo w.toInt64 (f_Words_length w)).1 = 0
  · rw [if_pos h, if_pos h]
  · rw [if_neg h, if_neg h]
    cases zf <;> rfl
theorem st_9 : f_Words_step 9 = nI 4097 := by decide +kernel
theorem len_9 : f_Words_length (nI 4097) = nI 12 := by decide +kernel
theorem mcs_19 {th bt nx : Int32} {cl : Bool} {nex out : Nat → Bool} {c : Nat} (hbt : bt = nI c) (hc : c ≤ 524288) : ∀ (p fuel b : Nat) (g : Nat → Bool), p < fuel → p < 8 → b + p ≤ 40 → (c + b + p) % 8 = 0 →
    l_Model_close_19 th bt cl nx nex out fuel (nI b) g = if bI cl = 0 then (if c + (b + p) ≤ 524288 then (nI ((c + (b + p)) / 8), (0, nI (c + (b + p)), true, nI (b + p), stR g b (b + p) false, fun j => if c ≤ j ∧ j < c + (b + p) then stR g b (b + p) false (j - c) else out j)) else (0, (1, nI c, cl, nI (b + p), stR g b (b + p) false, out))) else (0, (1, nI c, cl, nI (b + p), stR g b (b + p) false, out)) := by
  subst hbt
  intro p
  induction p with
  | zero =>
    intro fuel b g hf hp hb hm
    obtain ⟨f, rfl⟩ : ∃ f, fuel = f + 1 := ⟨fuel - 1, by omega⟩
    have er : nI (c + b) - nI (c + b) / 8 * 8 = nI ((c + b) % 8) := pk_rem (d := 8) (by omega) (by decide) (by decide)
    simp only [l_Model_close_19]
    rw [nI_add, er, show (c + b) % 8 = 0 by omega, if_pos (show nI 0 = 0 from rfl), Nat.add_zero, stR_0 _ _ (Nat.le_refl _)]
    cases cl with
    | true => rw [if_neg (show ¬ bI true = 0 by decide), if_neg (show ¬ bI true = 0 by decide)]
    | false =>
      rw [if_pos (show bI false = 0 from rfl), if_pos (show bI false = 0 from rfl)]
      by_cases h1 : c + b ≤ 524288
      · rw [if_pos (show nI (c + b) ≤ 524288 from nI_le (b := 524288) h1 (by omega)), if_pos h1, mt_f _ _ (by omega) hc]
        dsimp only
        unfold f_Model_bytesOut
        have e7 : nI (c + b) + 7 = nI (c + b + 7) := nI_add _ 7
        have e8 : nI (c + b + 7) / 8 = nI ((c + b + 7) / 8) := pk_div (d := 8) (by omega) (by decide) (by decide)
        rw [e7, e8, show (c + b + 7) / 8 = (c + b) / 8 by omega]
      · rw [if_neg (show ¬ nI (c + b) ≤ 524288 from nI_ge (a := 524288) (by omega) (by omega)), if_neg h1]
  | succ p ih =>
    intro fuel b g hf hp hb hm
    obtain ⟨f, rfl⟩ : ∃ f, fuel = f + 1 := ⟨fuel - 1, by omega⟩
    have er : nI (c + b) - nI (c + b) / 8 * 8 = nI ((c + b) % 8) := pk_rem (d := 8) (by omega) (by decide) (by decide)
    simp only [l_Model_close_19]
    rw [nI_add, er, if_neg (nI_ne0 (show 0 < (c + b) % 8 by omega) (by omega)), nI_clamp (by omega), nI_1, ih f (b + 1) _ (by omega) (by omega) (by omega) (by omega), show b + 1 + p = b + (p + 1) by omega, stR_s _ _ (by omega)]
/-- promise 4 -/
theorem close_R {ou : (Nat → Int64) × Int32} {ft cl : Bool} {th bt nx : Int32} {nex out : Nat → Bool} {f : Nat → Int64} {c : Nat} (ho : ou = (f, nI c)) (hbt : bt = nI c) (hc : c ≤ 524288) (hrow : rowR f c out) :
    ((f_Coder_finish ou ft cl).1 = -1 ∧ (f_Coder_finish ou ft cl).2 = (ou, ft, cl) ∧ ∃ (nx1 : Int32) (nex1 : Nat → Bool), (f_Model_close th bt cl nx nex out).2 = (1, bt, cl, nx1, nex1, out)) ∨
    (∃ (N : Nat), N ≤ 65536 ∧ (f_Coder_finish ou ft cl).1 = nI N ∧ (f_Model_close th bt cl nx nex out).1 = nI N ∧ ∃ (f1 : Nat → Int64) (c1 : Nat) (ft1 : Bool) (nx1 : Int32) (nex1 out1 : Nat → Bool), (f_Coder_finish ou ft cl).2 = ((f1, nI c1), ft1, true) ∧ (f_Model_close th bt cl nx nex out).2 = (0, nI c1, true, nx1, nex1, out1) ∧ c1 ≤ 524288 ∧ rowR f1 c1 out1) := by
  subst ho hbt
  have hE : (wl 4097).length = 12 := by decide
  have hm0 : f_Model_word 0 nex 4097 = (nI 12, app nex 0 (wl 4097)) := by
    have := mw_a (W := 4097) (b := 0) (by decide) (by decide) (by decide) nex
    rw [hE] at this
    exact this
  have hm1 : f_Model_word (nI 12) (app nex 0 (wl 4097)) 4097 = (nI 24, app nex 0 (wl 4097 ++ wl 4097)) := by
    have := mw_a (W := 4097) (b := 12) (by decide) (by decide) (by decide) (app nex 0 (wl 4097))
    have h2 := app_app nex 0 (wl 4097) (wl 4097)
    rw [hE] at this h2
    rw [← h2]
    exact this
  obtain ⟨g, hg⟩ : ∃ g, g = app nex 0 (wl 4097 ++ wl 4097) := ⟨_, rfl⟩
  obtain ⟨p, hp1, hp2⟩ : ∃ p, p < 8 ∧ (c + 24 + p) % 8 = 0 := ⟨(8 - (c + 24) % 8) % 8, by omega, by omega⟩
  have hmod : f_Model_close th (nI c) cl nx nex out = if bI cl = 0 then (if c + (24 + p) ≤ 524288 then (nI ((c + (24 + p)) / 8), (0, nI (c + (24 + p)), true, nI (24 + p), stR g 24 (24 + p) false, fun j => if c ≤ j ∧ j < c + (24 + p) then stR g 24 (24 + p) false (j - c) else out j)) else (0, (1, nI c, cl, nI (24 + p), stR g 24 (24 + p) false, out))) else (0, (1, nI c, cl, nI (24 + p), stR g 24 (24 + p) false, out)) := by
    unfold f_Model_close
    dsimp only
    rw [hm0]
    dsimp only
    rw [hm1, ← hg]
    dsimp only
    exact mcs_19 rfl hc p _ 24 g (by rw [nI_toInt (by omega), nI_toInt (by omega)]; omega) hp1 (by omega) (by omega)
  have hx3 : nI c + 2 * nI 12 = nI (c + 24) := by rw [show (2 : Int32) * nI 12 = nI 24 from by decide, nI_add]
  cases cl with
  | true =>
    rw [if_neg (show ¬ bI true = 0 by decide)] at hmod
    refine Or.inl ⟨?_, ?_, nI (24 + p), stR g 24 (24 + p) false, by rw [hmod]⟩ <;>
    · unfold f_Coder_finish
      rw [if_neg (show ¬ bI true = 0 by decide)]
  | false =>
    rw [if_pos (show bI false = 0 from rfl)] at hmod
    by_cases hfit : c + 24 ≤ 524288
    · rw [if_pos (show c + (24 + p) ≤ 524288 by omega)] at hmod
      -- the class
      have hok0 : oK f c (f, nI c) true [] := ⟨f, c, rfl, Nat.le_refl _, hc, hrow.clean, fun _ _ => rfl, by rw [List.length_nil, decide_eq_true (by omega)], fun _ => ⟨by simp, fun i p q => by omega⟩⟩
      have k1 := oK_word (W := 4097) (by decide) (by decide) hok0
      have k2 := oK_word (W := 4097) (by decide) (by decide) k1
      rw [List.nil_append] at k2
      have hlen24 : (wl 4097 ++ wl 4097).length = 24 := by decide
      obtain ⟨f', c', e, q1, q2, q3, q4, q5, q6⟩ := k2
      rw [hlen24, decide_eq_true (show c + 24 ≤ 524288 by omega)] at q5
      obtain ⟨s1, s2⟩ := q6 q5
      rw [hlen24] at s1
      subst s1
      have hu9 : (f_Coder_addWord (f_Coder_addWord (f, nI c) ft (nI 4097)).1 (f_Coder_addWord (f, nI c) ft (nI 4097)).2 (nI 4097)).1 = (f', nI (c + 24)) := by
        have a1 := aw_1 (f_Coder_addWord (f, nI c) ft (nI 4097)).1 (f_Coder_addWord (f, nI c) ft (nI 4097)).2 (nI 4097)
        have a2 := aw_1 (f, nI c) ft (nI 4097)
        have a3 := aw_1 (f_Coder_addWord (f, nI c) true (nI 4097)).1 (f_Coder_addWord (f, nI c) true (nI 4097)).2 (nI 4097)
        exact a1.trans ((congrArg (fun z => (f_Coder_addWord z true (nI 4097)).1) a2).trans (a3.symm.trans e))
      have hby : f_Bits_bytes (f', nI (c + 24)) = nI ((c + 24 + 7) / 8) := bytes_f f' hfit
      have hpad : (8 : Int32) * nI ((c + 24 + 7) / 8) - nI (c + 24) = nI p := by
        rw [show (8 : Int32) * nI ((c + 24 + 7) / 8) = nI (8 * ((c + 24 + 7) / 8)) from pk_mul 8 _, pk_sub (by omega)]
        refine congrArg nI ?_
        omega
      have hadd : ∃ f1, (f_Bits_add (f', nI (c + 24)) 0 (nI p)).2 = (f1, nI (c + 24 + p)) ∧ ∀ i, i < 524288 → gb f1 i = gb f' i := by
        by_cases hp0 : p = 0
        · refine ⟨f', ?_, fun _ _ => rfl⟩
          rw [addNo hfit (by omega) 0 (Or.inl hp0), hp0, Nat.add_zero]
        · obtain ⟨f1, e1, e2⟩ := addYes (f := f') (c := c + 24) (n := p) (by omega) (by omega) q3 0 (by omega)
          refine ⟨f1, by rw [e1], fun i hi => ?_⟩
          rw [e2 i hi]
          by_cases hin : c + 24 ≤ i ∧ i < c + 24 + p
          · rw [if_pos hin, z_b, q3 i hin.1 hi]
          · rw [if_neg hin]
      obtain ⟨f1, h1, h2⟩ := hadd
      have hfin : f_Coder_finish (f, nI c) ft false = (nI ((c + (24 + p)) / 8), ((f1, nI (c + (24 + p))), (f_Coder_addWord (f_Coder_addWord (f, nI c) ft (nI 4097)).1 (f_Coder_addWord (f, nI c) ft (nI 4097)).2 (nI 4097)).2, true)) := by
        unfold f_Coder_finish
        dsimp only
        rw [st_9, len_9, hx3, if_pos (show bI false = 0 from rfl), if_pos (show nI (c + 24) ≤ 524288 from nI_le (b := 524288) hfit (by omega)), hu9, hby, hpad, h1, bytes_f f1 (by omega), show (c + 24 + p + 7) / 8 = (c + (24 + p)) / 8 by omega, Nat.add_assoc]
      refine Or.inr ⟨(c + (24 + p)) / 8, by omega, by rw [hfin], by rw [hmod], f1, c + (24 + p), _, _, _, _, by rw [hfin], by rw [hmod], by omega, fun i hi => ?_⟩
      rw [h2 i hi]
      show _ = (decide (i < c + (24 + p)) && (if c ≤ i ∧ i < c + (24 + p) then stR g 24 (24 + p) false (i - c) else out i))
      by_cases a1 : i < c
      · rw [q4 i a1, hrow i hi, if_neg (by omega), decide_eq_true a1, decide_eq_true (show i < c + (24 + p) by omega)]
      · by_cases a2 : i < c + 24
        · rw [s2 i (by omega) a2, if_pos (by omega), decide_eq_true (show i < c + (24 + p) by omega), hg]
          unfold stR app
          rw [if_neg (by omega), if_pos (by rw [hlen24]; omega), Nat.sub_zero]; simp
        · rw [q3 i (by omega) hi]
          by_cases a3 : i < c + (24 + p)
          · rw [if_pos (by omega)]
            unfold stR
            rw [if_pos (by omega)]; simp
          · rw [decide_eq_false a3]; rfl
    · rw [if_neg (show ¬ c + (24 + p) ≤ 524288 by omega)] at hmod
      refine Or.inl ⟨?_, ?_, nI (24 + p), stR g 24 (24 + p) false, by rw [hmod]⟩ <;>
      · unfold f_Coder_finish
        dsimp only
        rw [st_9, len_9, hx3, if_pos (show bI false = 0 from rfl), if_neg (show ¬ nI (c + 24) ≤ 524288 from nI_ge (a := 524288) (by omega) (by omega))]
theorem mg_34 {th gv n : Int32} {inp : Nat → Int32} {x : Int64} : ∀ (m fuel b : Nat) (g : Nat → Int32), m < fuel → m ≤ 8 → b + m ≤ 65536 → ∃ g', l_Model_give_34 th gv inp x n fuel (nI b) g (nI m - 1) = (1, (0, nI (b + m), g')) ∧ (∀ j, (j < b ∨ b + m ≤ j) → g' j = g j) ∧
    ∀ j, b ≤ j → j < b + m → ∀ t, t < 8 → bb (g' j) t = x.toBitVec.getLsbD (8 * (b + m - 1 - j) + t) := by
  intro m
  induction m with
  | zero =>
    intro fuel b g hf hm hb
    obtain ⟨f, rfl⟩ : ∃ f, fuel = f + 1 := ⟨fuel - 1, by omega⟩
    simp only [l_Model_give_34]
    rw [if_pos (by decide)]
    exact ⟨g, rfl, fun _ _ => rfl, fun j h1 h2 => by omega⟩
  | succ m ih =>
    intro fuel b g hf hm hb
    obtain ⟨f, rfl⟩ : ∃ f, fuel = f + 1 := ⟨fuel - 1, by omega⟩
    have e1 : nI (m + 1) - 1 = nI m := nI_pred m
    have e8 : (8 : Int32) * nI m = nI (8 * m) := pk_mul 8 m
    have em : nI m + (-1) = nI m - 1 := (Int32.sub_eq_add_neg _ _).symm
    simp only [l_Model_give_34]
    rw [e1, if_neg (nI_pos (by omega)), nI_clamp (by omega), nI_1, e8, em]
    obtain ⟨g', h1, h2, h3⟩ := ih f (b + 1) (upd g b (((x >>> ((nI (8 * m)).toInt64 &&& 63)) &&& 255).toInt32)) (by omega) (by omega) (by omega)
    refine ⟨g', by rw [h1, show b + 1 + m = b + (m + 1) by omega], fun j hj => ?_, fun j q1 q2 t ht => ?_⟩
    · rw [h2 j (by omega), pk_un (by omega)]
    · rcases Nat.eq_or_lt_of_le q1 with e | e
      · rw [← e, h2 b (by omega), pk_us, gv_b x (by omega) ht, show b + (m + 1) - 1 - b = m by omega]
      · rw [h3 j (by omega) (by omega) t ht, show b + 1 + m - 1 - j = b + (m + 1) - 1 - j by omega]
/-- promise 7 -/
theorem give_R {f : Nat → Int64} {gv : Nat} {inp : Nat → Int32} (hg : gv ≤ 65536) (h : inR f gv inp) (th : Int32) (x : Int64) (n : Int32) :
    ∃ (f1 : Nat → Int64) (gv1 : Nat) (inp1 : Nat → Int32) (r : Int32), f_DL_give (f, nI (8 * gv)) x n = (r, (f1, nI (8 * gv1))) ∧ f_Model_give th (nI gv) inp x n = (r, (0, nI gv1, inp1)) ∧ gv1 ≤ 65536 ∧ inR f1 gv1 inp1 := by
  unfold f_DL_give f_Model_give
  by_cases h1 : n < 1
  · rw [if_pos h1, if_pos h1]; exact ⟨f, gv, inp, 0, rfl, rfl, hg, h⟩
  · rw [if_neg h1, if_neg h1]
    by_cases h2 : 8 < n
    · rw [if_pos h2, if_pos h2]; exact ⟨f, gv, inp, 0, rfl, rfl, hg, h⟩
    · rw [if_neg h2, if_neg h2]
      obtain ⟨m, hm, rfl⟩ := nI_of (x := n) (fun h0 => h1 (by rw [ti_lt, ti_0] at h0; rw [ti_lt, ti_1]; omega))
      have hm1 : 1 ≤ m := by
        rcases Nat.eq_zero_or_pos m with e | e
        · subst e; exact absurd (by decide) h1
        · exact e
      have hm8 : m ≤ 8 := by
        rcases Nat.lt_or_ge 8 m with e | e
        · exact absurd (nI_lt (a := 8) e hm) h2
        · exact e
      have e8 : (8 : Int32) * nI m = nI (8 * m) := pk_mul 8 m
      rw [e8, nI_add]
      by_cases h3 : gv + m ≤ 65536
      · obtain ⟨f1, e1, e2⟩ := addYes (f := f) (c := 8 * gv) (n := 8 * m) (by omega) (by omega) h.clean x (by omega)
        obtain ⟨g', q1, q2, q3⟩ := mg_34 (th := th) (gv := nI gv) (n := nI m) (inp := inp) (x := x) m ((Int32.toInt (nI m - 1) + 1).toNat + 1) gv inp (by
          have : nI m - 1 = nI (m - 1) := by
            have := nI_pred (m - 1)
            rwa [show m - 1 + 1 = m by omega] at this
          rw [this, nI_toInt (by omega)]; omega) hm8 h3
        rw [e1, if_pos (show nI (gv + m) ≤ 65536 from nI_le (b := 65536) h3 (by omega))]
        dsimp only
        rw [if_neg (show ¬ (1 : Int32) = 0 by decide), q1]
        refine ⟨f1, gv + m, g', 1, by rw [show 8 * gv + 8 * m = 8 * (gv + m) by omega], rfl, h3, fun i hi => ?_⟩
        rw [e2 i hi]
        by_cases hin : 8 * gv ≤ i ∧ i < 8 * gv + 8 * m
        · rw [if_pos hin, decide_eq_true (show i < 8 * (gv + m) by omega), q3 (i / 8) (by omega) (by omega) _ (by omega)]
          rw [show 8 * gv + 8 * m - 1 - i = 8 * (gv + m - 1 - i / 8) + (7 - i % 8) by omega]; simp
        · rw [if_neg hin, h i hi, q2 (i / 8) (by omega)]
          by_cases h9 : i < 8 * gv
          · rw [decide_eq_true h9, decide_eq_true (show i < 8 * (gv + m) by omega)]
          · rw [decide_eq_false h9, decide_eq_false (show ¬ i < 8 * (gv + m) by omega)]
      · rw [addNo (f := f) (c := 8 * gv) (n := 8 * m) (by omega) (by omega) x (Or.inr (by omega)), if_neg (show ¬ nI (gv + m) ≤ 65536 from nI_ge (a := 65536) (by omega) (by omega))]
        dsimp only
        rw [if_pos (show (0 : Int32) = 0 from rfl)]
        exact ⟨f, gv, inp, 0, rfl, rfl, hg, h⟩
theorem mtn_37 {wd : Nat} (hw : wd ≤ 10000) {c : Nat} (hc : c ≤ 524288) {out : Nat → Bool} {th gv lns ps st : Int32} {inp : Nat → Int32} {rab : Nat → Bool} {x : Int32} : ∀ (m fuel b k : Nat) (g : Nat → Int32), m + k = (c + 7) / 8 → m < fuel → b ≤ k →
    l_Model_turn_37 wd (nI c) out th gv lns ps st inp rab x fuel (nI b) g (nI k) = (nI (b + m), (0, nI (b + m), 0, 0, 1, (fun j => if b ≤ j ∧ j < b + m then nI (byN out c (8 * (k + (j - b) : Nat)) 8) else g j), stR rab 0 wd false)) := by
  have ebo : f_Model_bytesOut (nI c) = nI ((c + 7) / 8) := by
    unfold f_Model_bytesOut
    have e7 : nI c + 7 = nI (c + 7) := nI_add _ 7
    rw [e7]
    exact pk_div (d := 8) (by omega) (by decide) (by decide)
  intro m
  induction m with
  | zero =>
    intro fuel b k g hm hf hb
    obtain ⟨f, rfl⟩ : ∃ f, fuel = f + 1 := ⟨fuel - 1, by omega⟩
    simp only [l_Model_turn_37]
    rw [ebo, if_pos (nI_le (by omega) (by omega)), mb_f hw]
    have e : (fun j => if b ≤ j ∧ j < b + 0 then nI (byN out c (8 * (k + (j - b) : Nat)) 8) else g j) = g := by funext j; rw [if_neg (by omega)]
    rw [e, Nat.add_zero]
  | succ m ih =>
    intro fuel b k g hm hf hb
    obtain ⟨f, rfl⟩ : ∃ f, fuel = f + 1 := ⟨fuel - 1, by omega⟩
    have ek : ((nI k).toInt64).toInt = k := by rw [Int32.toInt_toInt64, nI_toInt (by omega)]
    simp only [l_Model_turn_37]
    rw [ebo, if_neg (nI_ge (by omega) (by omega)), bof_N hc out (by rw [ek]; omega) (by rw [ek]; omega), ek, nI_clamp (by omega), nI_1, nI_1, ih f (b + 1) (k + 1) _ (by omega) (by omega) (by omega)]
    have e : (fun j => if b + 1 ≤ j ∧ j < b + 1 + m then nI (byN out c (8 * (k + 1 + (j - (b + 1)) : Nat)) 8) else upd g b (nI (byN out c (8 * (k : Int)) 8)) j) = (fun j => if b ≤ j ∧ j < b + (m + 1) then nI (byN out c (8 * (k + (j - b) : Nat)) 8) else g j) := by
      funext j
      by_cases h1 : j = b
      · subst h1
        rw [if_neg (by omega), pk_us, if_pos (by omega), Nat.sub_self, Nat.add_zero]
      · rw [pk_un h1]
        by_cases h2 : b ≤ j ∧ j < b + (m + 1)
        · rw [if_pos (by omega), if_pos h2, show k + 1 + (j - (b + 1)) = k + (j - b) by omega]
        · rw [if_neg (by omega), if_neg h2]
    rw [e, show b + 1 + m = b + (m + 1) by omega]
/-- promise 8, the bytes -/
theorem turn_R {wd : Nat} (hw : wd ≤ 10000) {f f2 : Nat → Int64} {c c2 w : Nat} {out : Nat → Bool} (hc : c ≤ 524288) (hz : ∀ i, c ≤ i → i < 524288 → gb f i = false) (hc2 : c2 ≤ 524288) (hrow : rowR f2 c2 out) (hwb : w ≤ (c2 + 7) / 8) (th gv lns ps st : Int32) (inp : Nat → Int32) (rab : Nat → Bool) :
    ∃ (g1 : Nat → Int64) (inp1 : Nat → Int32), f_Bits_become (f2, nI c2) (f, nI c) (nI w) = (g1, nI (8 * ((c2 + 7) / 8 - w))) ∧ f_Model_turn wd (nI c2) out th gv lns ps st inp rab (nI w) = (nI ((c2 + 7) / 8 - w), (0, nI ((c2 + 7) / 8 - w), 0, 0, 1, inp1, stR rab 0 wd false)) ∧ inR g1 ((c2 + 7) / 8 - w) inp1 := by
  obtain ⟨g1, e1, e2⟩ := become_f (f := f) (f2 := f2) hc hz hc2 hwb
  have ebo : f_Model_bytesOut (nI c2) = nI ((c2 + 7) / 8) := by
    unfold f_Model_bytesOut
    have e7 : nI c2 + 7 = nI (c2 + 7) := nI_add _ 7
    rw [e7]
    exact pk_div (d := 8) (by omega) (by decide) (by decide)
  refine ⟨g1, (fun j => if 0 ≤ j ∧ j < 0 + ((c2 + 7) / 8 - w) then nI (byN out c2 (8 * (w + (j - 0) : Nat)) 8) else inp j), e1, ?_, fun i hi => ?_⟩
  · unfold f_Model_turn
    rw [if_neg (nI_pos (by omega)), ebo]
    dsimp only
    rw [if_pos (nI_le hwb (by omega)), nI_toInt (by omega), nI_toInt (by omega)]
    have := mtn_37 hw hc2 (out := out) (th := th) (gv := gv) (lns := lns) (ps := ps) (st := st) (inp := inp) (rab := rab) (x := nI w) ((c2 + 7) / 8 - w) ((((c2 : Int) + 7) / 8 - (w : Int)).toNat + 1) 0 w inp (by omega) (by omega) (by omega)
    rw [Nat.zero_add] at this
    rw [Nat.zero_add]
    exact this
  · rw [e2 i hi]
    by_cases h1 : i < 8 * ((c2 + 7) / 8 - w)
    · rw [decide_eq_true h1, Bool.true_and, Bool.true_and, hrow _ (by omega)]
      dsimp only
      rw [if_pos (by omega)]
      unfold bb
      have hlt := byN_lt out c2 (8 * (w + (i / 8 - 0) : Nat)) 8
      have e3 : (nI (byN out c2 (8 * (w + (i / 8 - 0) : Nat)) 8)).toBitVec.getLsbD (7 - i % 8) = (byN out c2 (8 * (w + (i / 8 - 0) : Nat)) 8).testBit (7 - i % 8) := by
        show (BitVec.ofNat 32 _).getLsbD _ = _
        rw [BitVec.getLsbD_ofNat, decide_eq_true (by omega)]; rfl
      rw [e3, byN_bit _ _ _ 8 _ (by omega)]
      unfold rb
      have e4 : ((8 : Int) * ((w + (i / 8 - 0) : Nat) : Int) + ((8 - 1 - (7 - i % 8) : Nat) : Int)) = ((8 * w + i : Nat) : Int) := by omega
      rw [e4, decide_eq_true (show (0 : Int) ≤ ((8 * w + i : Nat) : Int) by omega), Int.toNat_natCast]
      by_cases h2 : 8 * w + i < c2
      · rw [decide_eq_true h2, decide_eq_true (show ((8 * w + i : Nat) : Int) < c2 by omega)]; rfl
      · rw [decide_eq_false h2, decide_eq_false (show ¬ ((8 * w + i : Nat) : Int) < c2 by omega)]; rfl
    · rw [decide_eq_false h1]; rfl
